/-! the packing: the reference's tables, the class's tables -/
def encR : Option (Nat × Nat) → Int32
  | none => -1000000
  | some (n, c) => nI (100000 * n - c)
def encM : Option (Nat × Nat) → Int32
  | none => -4
  | some (n, _) => nI n
def encL : Option (Nat × Nat) → Int32
  | none => 0
  | some (_, c) => nI c
theorem gup_same {f : Int32 → Int32} {i x : Int32} (h : f i = x) : gup f i x = f := by
  funext k
  unfold gup
  split
  · rename_i e
    rw [e, h]
  · rfl
theorem gup_gup {f : Int32 → Int32} {i x y : Int32} : gup (gup f i x) i y = gup f i y := by
  funext k
  unfold gup
  split <;> rfl
theorem gup_ne {f : Int32 → Int32} {a b : Nat} {x : Int32} (ha : a < 2 ^ 31) (hb : b < 2 ^ 31) (h : a ≠ b) : gup f (nI a) x (nI b) = f (nI b) := if_neg (fun z => h ((nI_eq hb ha).mp z).symm)
section Pack2
variable {go : Nat → Prop} {ct : Nat → Nat}
/-- the tables below v -/
def TabR (go : Nat → Prop) (ct : Nat → Nat) (v : Nat) (parts : Int32 → Int32) : Prop := ∀ u, u < v → ∃ cur, TabX go ct u cur ∧ parts (nI u) = encR cur
def TabC (go : Nat → Prop) (ct : Nat → Nat) (v : Nat) (mo le : Int32 → Int32) : Prop := ∀ u, u < v → ∃ cur, TabX go ct u cur ∧ mo (nI u) = encM cur ∧ le (nI u) = encL cur
theorem big_0 {x : Nat} (hx : x < 2 ^ 30) : ¬ nI x ≤ -1000000 := by
  intro z
  have := Int32.le_trans (nI_pos' (n := x) (by omega)) z
  exact absurd this (by decide)
theorem big_1 {x : Nat} (hx : x < 2 ^ 30) : -1000000 ≤ nI x := Int32.le_trans (by decide) (nI_pos' (n := x) (by omega))
theorem big_2 {x : Nat} (hx : x < 2 ^ 30) : ¬ nI x = -1000000 := fun z => big_0 hx (by rw [z]; decide)
theorem big_e {cur : Option (Nat × Nat)} (h : ∀ n c, cur = some (n, c) → n ≤ 9) : -1000000 ≤ encR cur := by
  cases cur with
  | none => decide
  | some t =>
    obtain ⟨n, c⟩ := t
    have := h n c rfl
    exact big_1 (by omega)
theorem tab_bd {v : Nat} (hct : ∀ o, go o → ct o ≤ 891) (hv : v < 512) {cur : Option (Nat × Nat)} (h : TabX go ct v cur) : ∀ n c, cur = some (n, c) → n ≤ 9 ∧ c ≤ 891 * n := by
  intro n c e
  rcases h with ⟨rfl, _⟩ | ⟨n2, c2, rfl, hp, _⟩
  · cases e
  · cases e
    have := pk_9 hct hv hp
    omega
/-- one turn of the reference's inner loop -/
theorem split_step (hct : ∀ o, go o → ct o ≤ 891) {alone parts : Int32 → Int32} {v o : Nat} (hv : v < 512) (hs : SubN o v) (h0 : o ≠ 0) {cur : Option (Nat × Nat)} (I : InvX go ct (fun _ => True) v o cur)
    (hal : (go o → alone (nI o) = nI (ct o)) ∧ (¬ go o → alone (nI o) = -1)) (hT : TabR go ct v parts) (hc : parts (nI v) = encR cur) :
    ∃ cur', InvX go ct (fun _ => True) v ((o - 1) &&& v) cur' ∧ fX10_splits_68 alone v 0 (o, parts) = (false, (((o - 1) &&& v), gup parts (nI v) (encR cur'))) := by
  have hov := sub_le hs
  obtain ⟨cu, hcu, hpu⟩ := hT (andN v o) (andN_lt hs h0)
  have hvo : andN v o ≤ v := andN_le
  have hbu := tab_bd hct (by omega) hcu
  have hcb : ∀ n c, cur = some (n, c) → n ≤ 9 ∧ c ≤ 891 * n := fun n c e => by
    have := pk_9 hct hv (I.2 n c e).1
    omega
  have hbe := big_e (cur := cur) (fun n c e => (hcb n c e).1)
  unfold fX10_splits_68
  dsimp only
  rw [if_neg (nI_nle (by omega) (by omega))]
  have e9 : (v ^^^ (v &&& o)) = andN v o := rfl
  rw [e9]
  by_cases g : go o
  · rw [hal.1 g, if_neg (nI_pos (by have := hct o g; omega)), hpu]
    have hco := hct o g
    rcases hcu with ⟨rfl, hn⟩ | ⟨n, c, rfl, hp, hb⟩
    · rw [show encR none = -1000000 from rfl, if_pos rfl, hc, if_pos hbe]
      exact ⟨_, inv_step hv hs h0 I (Or.inl ⟨rfl, fun _ _ => hn⟩), rfl⟩
    · have hnc := hbu n c rfl
      have st := inv_step (cand := some (n + 1, c + ct o)) hv hs h0 I (Or.inr ⟨n, c, g, rfl, hp, hb⟩)
      have e1 : nI (100000 * n - c) + 100000 - nI (ct o) = nI (100000 * (n + 1) - (c + ct o)) := by
        rw [show nI (100000 * n - c) + 100000 = nI (100000 * n - c + 100000) from nI_add _ 100000, pk_sub (by omega)]
        congr 1
        omega
      show ∃ cur', _ ∧ (if nI (100000 * n - c) = -1000000 then _ else if nI (100000 * n - c) + 100000 - nI (ct o) ≤ parts (nI v) then _ else _) = _
      rw [if_neg (big_2 (by omega))]
      refine ⟨_, st, ?_⟩
      show (if nI (100000 * n - c) + 100000 - nI (ct o) ≤ parts (nI v) then (false, ((o - 1) &&& v), gup parts (nI v) (parts (nI v))) else (false, ((o - 1) &&& v), gup parts (nI v) (nI (100000 * n - c) + 100000 - nI (ct o)))) = _
      rw [e1, hc]
      cases cur with
      | none =>
        rw [show encR none = -1000000 from rfl, if_neg (big_0 (by omega))]
        rfl
      | some t =>
        obtain ⟨n1, c1⟩ := t
        have hb1 := hcb n1 c1 rfl
        unfold updX
        dsimp only
        by_cases k : n1 < n + 1 ∨ (n + 1 = n1 ∧ c + ct o < c1)
        · rw [if_pos k]
          have z : ¬ nI (100000 * (n + 1) - (c + ct o)) ≤ encR (some (n1, c1)) := fun z => by
            have := (nI_leI (b := 100000 * n1 - c1) (by omega) (by omega)).mp z
            omega
          rw [if_neg z]
          rfl
        · rw [if_neg k]
          have z : nI (100000 * (n + 1) - (c + ct o)) ≤ encR (some (n1, c1)) := nI_le (by omega) (by omega)
          rw [if_pos z]
  · rw [hal.2 g, if_pos (by decide), hc, if_pos hbe]
    exact ⟨_, inv_step hv hs h0 I (Or.inl ⟨rfl, fun _ z => absurd z g⟩), rfl⟩
theorem split_lp (hct : ∀ o, go o → ct o ≤ 891) {alone : Int32 → Int32} {v : Nat} (hv : v < 512) (hal : ∀ o, o ≤ v → (go o → alone (nI o) = nI (ct o)) ∧ (¬ go o → alone (nI o) = -1)) : ∀ (d i o : Nat) (parts : Int32 → Int32) (cur : Option (Nat × Nat)), o < d → SubN o v → InvX go ct (fun _ => True) v o cur → TabR go ct v parts → parts (nI v) = encR cur →
    ∃ cur', InvX go ct (fun _ => True) v 0 cur' ∧ (gWh (fX10_splits_68 alone v) d i (o, parts)).2 = gup parts (nI v) (encR cur') := by
  intro d
  induction d with
  | zero => intro i o parts cur h; omega
  | succ d ih =>
    intro i o parts cur hd hs I hT hc
    by_cases h0 : o = 0
    · subst h0
      refine ⟨cur, I, ?_⟩
      rw [gWh_t (b := (0, parts)) (by
        unfold fX10_splits_68
        dsimp only
        rw [if_pos (by decide)])]
      exact (gup_same hc).symm
    · obtain ⟨c1, i1, e1⟩ := split_step hct hv hs h0 I (hal o (sub_le hs)) hT hc
      have e2 : fX10_splits_68 alone v i (o, parts) = fX10_splits_68 alone v 0 (o, parts) := rfl
      rw [gWh_f (e2.trans e1)]
      have hlt : (o - 1) &&& v ≤ o - 1 := Nat.and_le_left
      obtain ⟨c2, i2, e3⟩ := ih (i + 1) ((o - 1) &&& v) (gup parts (nI v) (encR c1)) c1 (by omega) (fun p hp => by
        rw [Nat.testBit_and, Bool.and_eq_true] at hp
        exact hp.2) i1 (fun u hu => by
          obtain ⟨cu, q1, q2⟩ := hT u hu
          exact ⟨cu, q1, by rw [gup_ne (by omega) (by omega) (by omega)]; exact q2⟩) gup_s
      exact ⟨c2, i2, by rw [e3, gup_gup]⟩
/-- one turn of the class's inner loop -/
theorem pack_step (hct : ∀ o, go o → ct o ≤ 891) {cs mo le : Int32 → Int32} {v o l : Nat} (hv : v < 512) (hl : l < 9) (hs : SubN o v) (h0 : o ≠ 0) {cur : Option (Nat × Nat)} (I : InvX go ct (fun y => y.testBit l = true) v o cur)
    (hal : (go o → cs (nI o) = nI (ct o)) ∧ (¬ go o → cs (nI o) = -4)) (hT : TabC go ct v mo le) (hm : mo (nI v) = encM cur) (hle : le (nI v) = encL cur) :
    ∃ cur', InvX go ct (fun y => y.testBit l = true) v ((o - 1) &&& v) cur' ∧ fX4_packExactly_29 cs v (nI (2 ^ l)) 0 (o, mo, le) = (false, (((o - 1) &&& v), gup mo (nI v) (encM cur'), gup le (nI v) (encL cur'))) := by
  have hov := sub_le hs
  obtain ⟨cu, hcu, hpm, hpl⟩ := hT (andN v o) (andN_lt hs h0)
  have hvo : andN v o ≤ v := andN_le
  have hbu := tab_bd hct (by omega) hcu
  have hcb : ∀ n c, cur = some (n, c) → n ≤ 9 ∧ c ≤ 891 * n := fun n c e => by
    have := pk_9 hct hv (I.2 n c e).1
    omega
  have same : gup mo (nI v) (encM cur) = mo ∧ gup le (nI v) (encL cur) = le := ⟨gup_same hm, gup_same hle⟩
  have hlb : nI o &&& nI (2 ^ l) = 0 ↔ ¬ o.testBit l = true := by
    have hl2 : o &&& 2 ^ l ≤ o := Nat.and_le_left
    rw [z_and, show (0 : Int32) = nI 0 from rfl, nI_eq (by omega) (by omega)]
    constructor
    · intro z t
      have q : (o &&& 2 ^ l).testBit l = true := by rw [Nat.testBit_and, t, Nat.testBit_two_pow]; simp
      rw [z, Nat.zero_testBit] at q
      cases q
    · intro t
      apply Nat.eq_of_testBit_eq
      intro p
      rw [Nat.testBit_and, Nat.testBit_two_pow, Nat.zero_testBit]
      by_cases e : l = p
      · subst e
        cases q : o.testBit l
        · rfl
        · exact absurd q t
      · rw [show decide (l = p) = false from decide_eq_false e, Bool.and_false]
  unfold fX4_packExactly_29
  dsimp only
  rw [if_neg (nI_nle (by omega) (by omega))]
  by_cases b : o.testBit l = true
  · rw [if_neg (fun z => hlb.mp z b)]
    by_cases g : go o
    · have hco := hct o g
      rw [hal.1 g, if_neg (nI_ne4 (by omega)), hpm, hpl, hm, hle]
      rcases hcu with ⟨rfl, hn⟩ | ⟨n, c, rfl, hp, hb⟩
      · refine ⟨_, inv_step hv hs h0 I (Or.inl ⟨rfl, fun _ _ => hn⟩), ?_⟩
        rw [show encM none = -4 from rfl, if_pos rfl]
        show (false, (o - 1) &&& v, mo, le) = (false, (o - 1) &&& v, gup mo (nI v) (encM cur), gup le (nI v) (encL cur))
        rw [same.1, same.2]
      · have hnc := hbu n c rfl
        have st := inv_step (cand := some (n + 1, c + ct o)) hv hs h0 I (Or.inr ⟨n, c, g, rfl, hp, hb⟩)
        refine ⟨_, st, ?_⟩
        rw [show encM (some (n, c)) = nI n from rfl, show encL (some (n, c)) = nI c from rfl, if_neg (nI_ne4 (by omega)), show nI n + 1 = nI (n + 1) from nI_add n 1, nI_add]
        cases cur with
        | none =>
          rw [show encM none = -4 from rfl, if_pos (Int32.lt_of_lt_of_le (by decide) (nI_pos' (n := n + 1) (by omega)))]
          rfl
        | some t =>
          obtain ⟨n1, c1⟩ := t
          have hb1 := hcb n1 c1 rfl
          rw [show encM (some (n1, c1)) = nI n1 from rfl, show encL (some (n1, c1)) = nI c1 from rfl]
          have s2 := same
          rw [show encM (some (n1, c1)) = nI n1 from rfl, show encL (some (n1, c1)) = nI c1 from rfl] at s2
          unfold updX
          dsimp only
          by_cases k1 : n1 < n + 1
          · rw [if_pos (nI_lt k1 (by omega)), if_pos (Or.inl k1)]
            rfl
          · rw [if_neg (nI_nlt (by omega) (by omega))]
            by_cases k2 : n + 1 = n1
            · rw [if_pos (by rw [k2])]
              by_cases k3 : c1 ≤ c + ct o
              · rw [if_pos (nI_le k3 (by omega)), if_neg (by omega)]
                show (false, (o - 1) &&& v, mo, le) = (false, (o - 1) &&& v, gup mo (nI v) (nI n1), gup le (nI v) (nI c1))
                rw [s2.1, s2.2]
              · rw [if_neg (nI_ge (by omega) (by omega)), if_pos (Or.inr ⟨k2, by omega⟩)]
                rfl
            · rw [if_neg (fun z => k2 ((nI_eq (by omega) (by omega)).mp z)), if_neg (by omega)]
              show (false, (o - 1) &&& v, mo, le) = (false, (o - 1) &&& v, gup mo (nI v) (nI n1), gup le (nI v) (nI c1))
              rw [s2.1, s2.2]
    · rw [hal.2 g, if_pos rfl]
      refine ⟨cur, inv_step (cand := none) hv hs h0 I (Or.inl ⟨rfl, fun _ z => absurd z g⟩), ?_⟩
      rw [same.1, same.2]
  · rw [if_pos (hlb.mpr b)]
    refine ⟨cur, inv_step (cand := none) hv hs h0 I (Or.inl ⟨rfl, fun z => absurd z b⟩), ?_⟩
    rw [same.1, same.2]
theorem pack_lp (hct : ∀ o, go o → ct o ≤ 891) {cs : Int32 → Int32} {v l : Nat} (hv : v < 512) (hl : l < 9) (hal : ∀ o, o ≤ v → (go o → cs (nI o) = nI (ct o)) ∧ (¬ go o → cs (nI o) = -4)) : ∀ (d i o : Nat) (mo le : Int32 → Int32) (cur : Option (Nat × Nat)), o ≤ d → SubN o v → InvX go ct (fun y => y.testBit l = true) v o cur → TabC go ct v mo le → mo (nI v) = encM cur → le (nI v) = encL cur →
    ∃ cur', InvX go ct (fun y => y.testBit l = true) v 0 cur' ∧ (gWh (fX4_packExactly_29 cs v (nI (2 ^ l))) d i (o, mo, le)).2.1 = gup mo (nI v) (encM cur') ∧ (gWh (fX4_packExactly_29 cs v (nI (2 ^ l))) d i (o, mo, le)).2.2 = gup le (nI v) (encL cur') := by
  intro d
  induction d with
  | zero =>
    intro i o mo le cur h hs I hT hm hle
    have h0 : o = 0 := by omega
    subst h0
    exact ⟨cur, I, (gup_same hm).symm, (gup_same hle).symm⟩
  | succ d ih =>
    intro i o mo le cur hd hs I hT hm hle
    by_cases h0 : o = 0
    · subst h0
      refine ⟨cur, I, ?_⟩
      rw [gWh_t (b := (0, mo, le)) (by
        unfold fX4_packExactly_29
        dsimp only
        rw [if_pos (by decide)])]
      exact ⟨(gup_same hm).symm, (gup_same hle).symm⟩
    · obtain ⟨c1, i1, e1⟩ := pack_step hct hv hl hs h0 I (hal o (sub_le hs)) hT hm hle
      have e2 : fX4_packExactly_29 cs v (nI (2 ^ l)) i (o, mo, le) = fX4_packExactly_29 cs v (nI (2 ^ l)) 0 (o, mo, le) := rfl
      rw [gWh_f (e2.trans e1)]
      have hlt : (o - 1) &&& v ≤ o - 1 := Nat.and_le_left
      obtain ⟨c2, i2, e3, e4⟩ := ih (i + 1) ((o - 1) &&& v) (gup mo (nI v) (encM c1)) (gup le (nI v) (encL c1)) c1 (by omega) (fun p hp => by
        rw [Nat.testBit_and, Bool.and_eq_true] at hp
        exact hp.2) i1 (fun u hu => by
          obtain ⟨cu, q1, q2, q3⟩ := hT u hu
          exact ⟨cu, q1, by rw [gup_ne (by omega) (by omega) (by omega)]; exact q2, by rw [gup_ne (by omega) (by omega) (by omega)]; exact q3⟩) gup_s gup_s
      exact ⟨c2, i2, by rw [e3, gup_gup], by rw [e4, gup_gup]⟩
theorem low_bit : ∀ i, i < 512 → i ≠ 0 → ∃ l, l < 9 ∧ (i.testBit l = true ∧ nI i &&& (-(nI i)) = nI (2 ^ l)) := by decide +kernel
/-- the class's table at v -/
theorem exact_eq (hct : ∀ o, go o → ct o ≤ 891) (hgo : ∀ y, go y → y ≠ 0) {cs mo le : Int32 → Int32} {v : Nat} (hv : v < 512) (hv0 : v ≠ 0) (hal : ∀ o, o ≤ v → (go o → cs (nI o) = nI (ct o)) ∧ (¬ go o → cs (nI o) = -4)) (hT : TabC go ct v mo le) :
    ∃ cur, TabX go ct v cur ∧ rX4_packExactly cs mo le v = (gup mo (nI v) (encM cur), gup le (nI v) (encL cur)) := by
  obtain ⟨l, l1, l2, l3⟩ := low_bit v hv hv0
  have hT2 : TabC go ct v (gup mo (nI v) (-4)) (gup le (nI v) 0) := fun u hu => by
    obtain ⟨cu, q1, q2, q3⟩ := hT u hu
    exact ⟨cu, q1, by rw [gup_ne (by omega) (by omega) (by omega)]; exact q2, by rw [gup_ne (by omega) (by omega) (by omega)]; exact q3⟩
  obtain ⟨cur, I, e1, e2⟩ := pack_lp hct hv l1 hal 512 0 v (gup mo (nI v) (-4)) (gup le (nI v) 0) none (by omega) (fun p hp => hp) inv_start hT2 gup_s gup_s
  refine ⟨cur, inv_end hv0 hgo (fun n c hp => pk_ex n v c l2 hp) I, ?_⟩
  unfold rX4_packExactly
  rw [l3, e1, e2, gup_gup, gup_gup]
/-- the reference's table at v -/
theorem split_eq (hct : ∀ o, go o → ct o ≤ 891) (hgo : ∀ y, go y → y ≠ 0) {alone parts : Int32 → Int32} {v : Nat} (hv : v < 512) (hal : ∀ o, o ≤ v → (go o → alone (nI o) = nI (ct o)) ∧ (¬ go o → alone (nI o) = -1)) (hT : TabR go ct v parts) :
    ∃ cur, TabX go ct v cur ∧ (gWh (fX10_splits_68 alone v) (v + 1) 0 (v, gup parts (nI v) (if v = 0 then 0 else -1000000))).2 = gup parts (nI v) (encR cur) := by
  by_cases hv0 : v = 0
  · subst hv0
    refine ⟨some (0, 0), tab_0, ?_⟩
    rw [gWh_t (b := (0, gup parts (nI 0) (if (0 : Nat) = 0 then 0 else -1000000))) (by
      unfold fX10_splits_68
      dsimp only
      rw [if_pos (by decide)])]
    rfl
  · rw [if_neg hv0]
    have hT2 : TabR go ct v (gup parts (nI v) (-1000000)) := fun u hu => by
      obtain ⟨cu, q1, q2⟩ := hT u hu
      exact ⟨cu, q1, by rw [gup_ne (by omega) (by omega) (by omega)]; exact q2⟩
    obtain ⟨cur, I, e1⟩ := split_lp hct hv hal (v + 1) 0 v (gup parts (nI v) (-1000000)) none (by omega) (fun p hp => hp) inv_start hT2 gup_s
    refine ⟨cur, inv_end hv0 hgo (fun n c hp => ?_) I, by rw [e1, gup_gup]⟩
    obtain ⟨o, c', _, h2, h3, h4, h5⟩ := hp
    exact ⟨o, c', trivial, h2, h3, h4, h5⟩
end Pack2
