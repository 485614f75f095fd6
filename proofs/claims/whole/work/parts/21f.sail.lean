/-! sailings -/
section Sail
variable {sz : Nat} {K A C G : Nat → Nat} {W B R : Nat} {Z T : Nat → Nat} {mi : Nat} {told s : Int32 → Int32} {ki ag co pa me nt : Int32 → Int32} {sd bo cr de : Nat} {wa be pr : Int32} {cs : Int32 → Int32}
def goN (told s : Int32 → Int32) (sz t i : Nat) : Prop := i < 512 ∧ GoP told s sz t i
def ctN (sz : Nat) (K A T : Nat → Nat) (W R i : Nat) : Nat := R * (Sm sz K A T i - W)
theorem Sm_0 : Sm sz K A T 0 = 0 := by
  unfold Sm
  refine sumN_zero sz (fun p _ => ?_)
  unfold sgT
  rw [if_neg (by rw [Nat.zero_testBit]; decide)]
theorem go_ct (h : Al sz K A C G W B R Z T mi told s ki ag co pa me nt sd bo cr de wa be pr) {i : Nat} (g : goN told s sz (remN sz cr de) i) : ctN sz K A T W R i ≤ 891 ∧ rX10_coinsOf told s (nI i) sz = nI (ctN sz K A T W R i) := by
  have q := (ref_sails h.1 h.2.1 h.2.2.1 h.2.2.2.2 (a := i) (by have := g.1; omega)).mp g.2.2
  refine ⟨?_, ref_coins h.1 h.2.1 h.2.2.1 (by have := g.1; omega) q.2.1⟩
  obtain ⟨_, _, _, _, h5, h6, _, _⟩ := h.1
  have q2 : R * (Sm sz K A T i - W) ≤ 9 * 99 := Nat.mul_le_mul h6 (by omega)
  unfold ctN
  omega
theorem go_ne (h : Al sz K A C G W B R Z T mi told s ki ag co pa me nt sd bo cr de wa be pr) {i : Nat} (g : goN told s sz (remN sz cr de) i) : i ≠ 0 := by
  intro e
  have q := (ref_sails h.1 h.2.1 h.2.2.1 h.2.2.2.2 (a := i) (by have := g.1; omega)).mp g.2.2
  rw [e, Sm_0] at q
  have := h.1.2.2.1
  omega
theorem go_R (h : Al sz K A C G W B R Z T mi told s ki ag co pa me nt sd bo cr de wa be pr) {i p : Nat} (g : goN told s sz (remN sz cr de) i) (hp : i.testBit p = true) : p < sz := by
  have w := (within_iff (by have := g.1; omega)).mp g.2.1 p hp
  refine Nat.lt_of_not_le (fun z => ?_)
  rw [tb_hi (rem_lt h.2.2.2.2) z] at w
  cases w
theorem pk_tb {go : Nat → Prop} {ct : Nat → Nat} {n v c p : Nat} (hv : v.testBit p = true) (h : Pk go ct n v c) : ∃ o, go o ∧ o.testBit p = true := by
  cases n with
  | zero =>
    rw [h.1, Nat.zero_testBit] at hv
    cases hv
  | succ n =>
    obtain ⟨o, _, h1, _, h3, _⟩ := pk_ex n v c hv h
    exact ⟨o, h3, h1⟩
theorem tab_out (h : Al sz K A C G W B R Z T mi told s ki ag co pa me nt sd bo cr de wa be pr) {v : Nat} (hv : 2 ^ sz ≤ v) {cur : Option (Nat × Nat)} (t : TabX (goN told s sz (remN sz cr de)) (ctN sz K A T W R) v cur) : cur = none := by
  rcases t with ⟨e, _⟩ | ⟨n, c, rfl, hp, _⟩
  · exact e
  · obtain ⟨p, hp1, hp2⟩ := Nat.exists_ge_and_testBit_of_ge_two_pow hv
    obtain ⟨o, g, ho⟩ := pk_tb hp2 hp
    have := go_R h g ho
    omega
/-- the reference's loop over all sets -/
theorem splits_7 (h : Al sz K A C G W B R Z T mi told s ki ag co pa me nt sd bo cr de wa be pr) {i : Nat} (hi : i < 512) (al pa : Int32 → Int32) : ∃ x : Int32, (goN told s sz (remN sz cr de) i → x = nI (ctN sz K A T W R i)) ∧ (¬ goN told s sz (remN sz cr de) i → x = -1) ∧ fX10_splits_7 told s (nI (remN sz cr de)) sz i (al, pa) = (gup al (nI i) x, (gWh (fX10_splits_68 (gup al (nI i) x) i) (i + 1) 0 (i, gup pa (nI i) (if i = 0 then 0 else -1000000))).2) := by
  have e0 : ∀ a b : Int32 → Int32, (if nI i = 0 then a else b) = if i = 0 then a else b := by
    intro a b
    by_cases z : i = 0
    · rw [if_pos z, if_pos (by rw [z]; rfl)]
    · rw [if_neg z, if_neg (nI_ne0 (by omega) (by omega))]
  unfold fX10_splits_7
  dsimp only
  by_cases w : rX9_within (nI i) (nI (remN sz cr de)) = true
  · rw [if_pos (wi_iff.mp w)]
    by_cases g : rX10_sails told s (nI i) sz = true
    · have gg : goN told s sz (remN sz cr de) i := ⟨hi, w, g⟩
      refine ⟨nI (ctN sz K A T W R i), fun _ => rfl, fun z => absurd gg z, ?_⟩
      rw [if_pos g, (go_ct h gg).2]
      by_cases z : i = 0
      · rw [if_pos z, if_pos (by rw [z]; rfl)]
      · rw [if_neg z, if_neg (nI_ne0 (by omega) (by omega))]
    · refine ⟨-1, fun z => absurd z.2.2 g, fun _ => rfl, ?_⟩
      rw [if_neg g]
      by_cases z : i = 0
      · rw [if_pos z, if_pos (by rw [z]; rfl)]
      · rw [if_neg z, if_neg (nI_ne0 (by omega) (by omega))]
  · refine ⟨-1, fun z => absurd z.2.1 w, fun _ => rfl, ?_⟩
    rw [if_neg (fun z => w (wi_iff.mpr z))]
    by_cases z : i = 0
    · rw [if_pos z, if_pos (by rw [z]; rfl)]
    · rw [if_neg z, if_neg (nI_ne0 (by omega) (by omega))]
theorem splits_tab (h : Al sz K A C G W B R Z T mi told s ki ag co pa me nt sd bo cr de wa be pr) (alone parts : Int32 → Int32) : TabR (goN told s sz (remN sz cr de)) (ctN sz K A T W R) (2 ^ sz) (rX10_splits told s alone parts sz).2 := by
  have hp := pw9 h.1.2.1
  have e : (rX10_splits told s alone parts sz).2 = (gLp (fX10_splits_7 told s (nI (remN sz cr de)) sz) (2 ^ sz) 0 (alone, parts)).2 := by
    unfold rX10_splits
    rw [alive_eq h.1 h.2.1 h.2.2.1 h.2.2.2.2]
  rw [e]
  have key := gLp_inv (n := 2 ^ sz) (f := fX10_splits_7 told s (nI (remN sz cr de)) sz) (fun k r => (∀ o, o < k → (goN told s sz (remN sz cr de) o → r.1 (nI o) = nI (ctN sz K A T W R o)) ∧ (¬ goN told s sz (remN sz cr de) o → r.1 (nI o) = -1)) ∧ TabR (goN told s sz (remN sz cr de)) (ctN sz K A T W R) k r.2) (by
    rintro i ⟨al, pa⟩ hi ⟨q1, q2⟩
    obtain ⟨x, x1, x2, x3⟩ := splits_7 h (i := i) (by omega) al pa
    rw [x3]
    have q3 : ∀ o, o ≤ i → (goN told s sz (remN sz cr de) o → gup al (nI i) x (nI o) = nI (ctN sz K A T W R o)) ∧ (¬ goN told s sz (remN sz cr de) o → gup al (nI i) x (nI o) = -1) := by
      intro o ho
      by_cases e : o = i
      · subst e
        rw [gup_s]
        exact ⟨x1, x2⟩
      · rw [gup_ne (by omega) (by omega) (by omega)]
        exact q1 o (by omega)
    refine ⟨fun o ho => q3 o (by omega), ?_⟩
    obtain ⟨cur, c1, c2⟩ := split_eq (go := goN told s sz (remN sz cr de)) (ct := ctN sz K A T W R) (fun o g => (go_ct h g).1) (fun y g => go_ne h g) (alone := gup al (nI i) x) (parts := pa) (v := i) (by omega) q3 q2
    intro u hu
    dsimp only
    rw [c2]
    by_cases e : u = i
    · subst e
      exact ⟨cur, c1, gup_s⟩
    · obtain ⟨cu, r1, r2⟩ := q2 u (by omega)
      exact ⟨cu, r1, by rw [gup_ne (by omega) (by omega) (by omega)]; exact r2⟩) (2 ^ sz) 0 (alone, parts) (by omega) ⟨fun o ho => absurd ho (Nat.not_lt_zero o), fun u hu => absurd hu (Nat.not_lt_zero u)⟩
  exact key.2
/-- both choices side by side -/
def SelX (go : Nat → Prop) (ct : Nat → Nat) (rm m : Nat) (r : Nat × Int32) (pk pc lf : Int32) : Prop :=
  ∃ n c, r.1 < m ∧ TabX go ct r.1 (some (n, c)) ∧ pk = nI n ∧ pc = nI c ∧ lf = r.2
theorem sel_step (h : Al sz K A C G W B R Z T mi told s ki ag co pa me nt sd bo cr de wa be pr) {i : Nat} (hi : i < 2 ^ sz) {parts : Int32 → Int32} (hT : TabR (goN told s sz (remN sz cr de)) (ctN sz K A T W R) (2 ^ sz) parts) {r : Nat × Int32} {pk pc lf : Int32} (S : SelX (goN told s sz (remN sz cr de)) (ctN sz K A T W R) (remN sz cr de) (2 ^ sz) r pk pc lf) {mo le : Int32 → Int32} {cur : Option (Nat × Nat)} (hc : TabX (goN told s sz (remN sz cr de)) (ctN sz K A T W R) i cur) (hm : mo (nI i) = encM cur) (hl : le (nI i) = encL cur) :
    (mo (nI i) = -4 → SelX (goN told s sz (remN sz cr de)) (ctN sz K A T W R) (remN sz cr de) (2 ^ sz) (fX10_sailings_25 told s parts sz i r) pk pc lf) ∧ (¬ mo (nI i) = -4 → SelX (goN told s sz (remN sz cr de)) (ctN sz K A T W R) (remN sz cr de) (2 ^ sz) (fX10_sailings_25 told s parts sz i r) (rX4_compareWay mo le pk pc lf i (nI (andN (remN sz cr de) i))).1 (rX4_compareWay mo le pk pc lf i (nI (andN (remN sz cr de) i))).2.1 (rX4_compareWay mo le pk pc lf i (nI (andN (remN sz cr de) i))).2.2) := by
  have hp := pw9 h.1.2.1
  obtain ⟨u0, u1⟩ := r
  obtain ⟨n, c, s1, s2, rfl, rfl, rfl⟩ := S
  dsimp only at s1 s2
  have hct : ∀ o, goN told s sz (remN sz cr de) o → ctN sz K A T W R o ≤ 891 := fun o g => (go_ct h g).1
  have b0 := tab_bd hct (by omega) s2 n c rfl
  obtain ⟨cu, t1, t2⟩ := hT i hi
  have e1 := tab_uniq t1 hc
  subst e1
  obtain ⟨c0, t3, t4⟩ := hT u0 s1
  have e2 := tab_uniq t3 s2
  subst e2
  have ea : (rX10_alive told s sz) &&& ((nI i) ^^^ (-1)) = nI (andN (remN sz cr de) i) := by
    rw [alive_eq h.1 h.2.1 h.2.2.1 h.2.2.2.2, z_andN]
  unfold fX10_sailings_25
  dsimp only
  rw [ea, t2, t4]
  cases cu with
  | none =>
    refine ⟨fun _ => ?_, fun z => absurd hm z⟩
    have k1 : encR none ≤ encR (some (n, c)) := big_1 (by omega)
    have k2 : ¬ encR none = encR (some (n, c)) := fun z => big_2 (x := 100000 * n - c) (by omega) z.symm
    rw [if_pos k1, if_neg k2]
    exact ⟨n, c, s1, s2, rfl, rfl, rfl⟩
  | some t =>
    obtain ⟨n1, c1⟩ := t
    have b1 := tab_bd hct (by omega) hc n1 c1 rfl
    have hm2 : mo (nI i) = nI n1 := hm
    have hl2 : le (nI i) = nI c1 := hl
    refine ⟨fun z => absurd (hm2.symm.trans z) (nI_ne4 (by omega)), fun _ => ?_⟩
    unfold rX4_compareWay
    rw [hm2, hl2]
    by_cases k : 100000 * n1 - c1 ≤ 100000 * n - c
    · have k1 : encR (some (n1, c1)) ≤ encR (some (n, c)) := nI_le k (by omega)
      rw [if_pos k1]
      by_cases k2 : n1 = n ∧ c1 = c
      · obtain ⟨rfl, rfl⟩ := k2
        rw [if_pos rfl, if_pos rfl, if_pos rfl]
        by_cases k3 : lf ≤ nI (andN (remN sz cr de) i)
        · rw [if_pos k3, if_pos k3]
          exact ⟨n1, c1, s1, s2, rfl, rfl, rfl⟩
        · rw [if_neg k3, if_neg k3]
          exact ⟨n1, c1, s1, s2, rfl, rfl, rfl⟩
      · have k4 : ¬ encR (some (n1, c1)) = encR (some (n, c)) := fun z => by
          have := (nI_eq (a := 100000 * n1 - c1) (b := 100000 * n - c) (by omega) (by omega)).mp z
          omega
        rw [if_neg k4]
        by_cases k5 : n1 = n
        · subst k5
          rw [if_pos rfl, if_neg (fun z => k2 ⟨rfl, (nI_eq (by omega) (by omega)).mp z⟩), if_pos (nI_le (by omega) (by omega))]
          exact ⟨n1, c, s1, s2, rfl, rfl, rfl⟩
        · rw [if_neg (fun z => k5 ((nI_eq (by omega) (by omega)).mp z)), if_pos (nI_le (by omega) (by omega))]
          exact ⟨n, c, s1, s2, rfl, rfl, rfl⟩
    · have k1 : ¬ encR (some (n1, c1)) ≤ encR (some (n, c)) := nI_ge (by omega) (by omega)
      rw [if_neg k1]
      by_cases k5 : n1 = n
      · subst k5
        rw [if_pos rfl, if_neg (fun z => by have := (nI_eq (by omega) (by omega)).mp z; omega), if_neg (nI_ge (by omega) (by omega))]
        exact ⟨n1, c1, hi, hc, rfl, rfl, rfl⟩
      · rw [if_neg (fun z => k5 ((nI_eq (by omega) (by omega)).mp z)), if_neg (nI_ge (by omega) (by omega))]
        exact ⟨n1, c1, hi, hc, rfl, rfl, rfl⟩
def PackJ (go : Nat → Prop) (ct : Nat → Nat) (i : Nat) (q : (Int32 → Int32) × (Int32 → Int32) × Int32 × Int32 × Int32) : Prop := TabC go ct i q.1 q.2.1
theorem pack_48 (h : Al sz K A C G W B R Z T mi told s ki ag co pa me nt sd bo cr de wa be pr) {i : Nat} (hi : i < 512) (hi1 : 1 ≤ i) {mo le : Int32 → Int32} {pk pc lf : Int32} (J : TabC (goN told s sz (remN sz cr de)) (ctN sz K A T W R) i mo le) : ∃ cur, TabX (goN told s sz (remN sz cr de)) (ctN sz K A T W R) i cur ∧ ∃ mo2 le2, TabC (goN told s sz (remN sz cr de)) (ctN sz K A T W R) (i + 1) mo2 le2 ∧ mo2 (nI i) = encM cur ∧ le2 (nI i) = encL cur ∧ fX4_pack_48 (rX4_costAll ki ag me wa be pr nt cs (remN sz cr de) sz cr de sd) (remN sz cr de) i (mo, le, pk, pc, lf) = if mo2 (nI i) = -4 then (mo2, le2, pk, pc, lf) else (mo2, le2, (rX4_compareWay mo2 le2 pk pc lf i (nI (andN (remN sz cr de) i))).1, (rX4_compareWay mo2 le2 pk pc lf i (nI (andN (remN sz cr de) i))).2.1, (rX4_compareWay mo2 le2 pk pc lf i (nI (andN (remN sz cr de) i))).2.2) := by
  have hal : ∀ o, o ≤ i → (goN told s sz (remN sz cr de) o → (rX4_costAll ki ag me wa be pr nt cs (remN sz cr de) sz cr de sd) (nI o) = nI (ctN sz K A T W R o)) ∧ (¬ goN told s sz (remN sz cr de) o → (rX4_costAll ki ag me wa be pr nt cs (remN sz cr de) sz cr de sd) (nI o) = -4) := by
    intro o ho
    refine ⟨fun g => ?_, fun g => (csR_no h (by omega)).mpr (fun z => g ⟨by omega, z⟩)⟩
    rw [csR_eq h (by omega), if_pos g.2.1, if_pos g.2.2, (go_ct h g).2]
  obtain ⟨cur, c1, c2⟩ := exact_eq (go := goN told s sz (remN sz cr de)) (ct := ctN sz K A T W R) (fun o g => (go_ct h g).1) (fun y g => go_ne h g) (cs := (rX4_costAll ki ag me wa be pr nt cs (remN sz cr de) sz cr de sd)) (mo := mo) (le := le) (v := i) hi (by omega) hal J
  refine ⟨cur, c1, gup mo (nI i) (encM cur), gup le (nI i) (encL cur), fun u hu => ?_, gup_s, gup_s, ?_⟩
  · by_cases e : u = i
    · subst e
      exact ⟨cur, c1, gup_s, gup_s⟩
    · obtain ⟨cu, r1, r2, r3⟩ := J u (by omega)
      exact ⟨cu, r1, by rw [gup_ne (by omega) (by omega) (by omega)]; exact r2, by rw [gup_ne (by omega) (by omega) (by omega)]; exact r3⟩
  · unfold fX4_pack_48
    dsimp only
    rw [c2]
theorem sail_lp (h : Al sz K A C G W B R Z T mi told s ki ag co pa me nt sd bo cr de wa be pr) {parts : Int32 → Int32} (hT : TabR (goN told s sz (remN sz cr de)) (ctN sz K A T W R) (2 ^ sz) parts) (mo le : Int32 → Int32) : ∀ d, 1 + d ≤ 2 ^ sz → TabC (goN told s sz (remN sz cr de)) (ctN sz K A T W R) (1 + d) (gLp (fX4_pack_48 (rX4_costAll ki ag me wa be pr nt cs (remN sz cr de) sz cr de sd) (remN sz cr de)) d 1 (gup mo 0 0, gup le 0 0, 0, 0, nI (remN sz cr de))).1 (gLp (fX4_pack_48 (rX4_costAll ki ag me wa be pr nt cs (remN sz cr de) sz cr de sd) (remN sz cr de)) d 1 (gup mo 0 0, gup le 0 0, 0, 0, nI (remN sz cr de))).2.1 ∧
    SelX (goN told s sz (remN sz cr de)) (ctN sz K A T W R) (remN sz cr de) (2 ^ sz) (gLp (fX10_sailings_25 told s parts sz) d 1 (0, nI (remN sz cr de))) (gLp (fX4_pack_48 (rX4_costAll ki ag me wa be pr nt cs (remN sz cr de) sz cr de sd) (remN sz cr de)) d 1 (gup mo 0 0, gup le 0 0, 0, 0, nI (remN sz cr de))).2.2.1 (gLp (fX4_pack_48 (rX4_costAll ki ag me wa be pr nt cs (remN sz cr de) sz cr de sd) (remN sz cr de)) d 1 (gup mo 0 0, gup le 0 0, 0, 0, nI (remN sz cr de))).2.2.2.1 (gLp (fX4_pack_48 (rX4_costAll ki ag me wa be pr nt cs (remN sz cr de) sz cr de sd) (remN sz cr de)) d 1 (gup mo 0 0, gup le 0 0, 0, 0, nI (remN sz cr de))).2.2.2.2
  | 0, hd => by
    rw [gLp, gLp]
    refine ⟨fun u hu => ?_, ⟨0, 0, Nat.two_pow_pos sz, tab_0, rfl, rfl, rfl⟩⟩
    have e : u = 0 := by omega
    subst e
    exact ⟨some (0, 0), tab_0, rfl, rfl⟩
  | d + 1, hd => by
    have hp := pw9 h.1.2.1
    have ih := sail_lp h hT mo le d (by omega)
    rw [gLp_succ, gLp_succ]
    generalize gLp (fX4_pack_48 (rX4_costAll ki ag me wa be pr nt cs (remN sz cr de) sz cr de sd) (remN sz cr de)) d 1 (gup mo 0 0, gup le 0 0, 0, 0, nI (remN sz cr de)) = q at ih ⊢
    generalize gLp (fX10_sailings_25 told s parts sz) d 1 (0, nI (remN sz cr de)) = r at ih ⊢
    obtain ⟨mo1, le1, pk, pc, lf⟩ := q
    obtain ⟨i1, i2⟩ := ih
    dsimp only at i1 i2
    have k1 : 1 + d < 512 := by omega
    have k2 : 1 ≤ 1 + d := by omega
    have k3 : 1 + d < 2 ^ sz := by omega
    obtain ⟨cur, c1, mo2, le2, c2, c3, c4, c5⟩ := pack_48 (cs := cs) (pk := pk) (pc := pc) (lf := lf) h k1 k2 i1
    have st := sel_step h k3 hT i2 c1 c3 c4
    rw [c5]
    by_cases z : mo2 (nI (1 + d)) = -4
    · rw [if_pos z]
      exact ⟨c2, st.1 z⟩
    · rw [if_neg z]
      exact ⟨c2, st.2 z⟩
theorem sail_more (h : Al sz K A C G W B R Z T mi told s ki ag co pa me nt sd bo cr de wa be pr) : ∀ (d i : Nat) (q : (Int32 → Int32) × (Int32 → Int32) × Int32 × Int32 × Int32), 2 ^ sz ≤ i → i + d = 512 → TabC (goN told s sz (remN sz cr de)) (ctN sz K A T W R) i q.1 q.2.1 → (gLp (fX4_pack_48 (rX4_costAll ki ag me wa be pr nt cs (remN sz cr de) sz cr de sd) (remN sz cr de)) d i q).2.2 = q.2.2 := by
  intro d
  induction d with
  | zero => intro i q _ _ _; rfl
  | succ d ih =>
    intro i q h1 h2 h3
    obtain ⟨mo1, le1, pk, pc, lf⟩ := q
    have k0 : 1 ≤ 2 ^ sz := Nat.one_le_two_pow
    obtain ⟨cur, c1, mo2, le2, c2, c3, c4, c5⟩ := pack_48 (cs := cs) (pk := pk) (pc := pc) (lf := lf) h (i := i) (by omega) (by omega) h3
    have e := tab_out h h1 c1
    subst e
    rw [gLp, c5, if_pos (show mo2 (nI i) = -4 from c3)]
    exact ih (i + 1) _ (by omega) (by omega) c2
theorem eq_sail (h : Al sz K A C G W B R Z T mi told s ki ag co pa me nt sd bo cr de wa be pr) (alone parts mo le : Int32 → Int32) (pk pc lf what : Int32) : (rX10_sailings told s alone parts what sz).1 = (rX9_sailings ki ag me wa be pr nt cs mo le pk pc lf what sz cr de sd).1 := by
  have hp := pw9 h.1.2.1
  have k0 : 1 ≤ 2 ^ sz := Nat.one_le_two_pow
  have hT := splits_tab h alone parts
  obtain ⟨q1, q2⟩ := sail_lp (cs := cs) h hT mo le (2 ^ sz - 1) (by omega)
  have q3 := sail_more (cs := cs) h (512 - 2 ^ sz) (2 ^ sz) (gLp (fX4_pack_48 (rX4_costAll ki ag me wa be pr nt cs (remN sz cr de) sz cr de sd) (remN sz cr de)) (2 ^ sz - 1) 1 (gup mo 0 0, gup le 0 0, 0, 0, nI (remN sz cr de))) (Nat.le_refl _) (by omega) (by rw [show 1 + (2 ^ sz - 1) = 2 ^ sz by omega] at q1; exact q1)
  have q4 : gLp (fX4_pack_48 (rX4_costAll ki ag me wa be pr nt cs (remN sz cr de) sz cr de sd) (remN sz cr de)) (512 - 1) 1 (gup mo 0 0, gup le 0 0, 0, 0, nI (remN sz cr de)) = gLp (fX4_pack_48 (rX4_costAll ki ag me wa be pr nt cs (remN sz cr de) sz cr de sd) (remN sz cr de)) (512 - 2 ^ sz) (2 ^ sz) (gLp (fX4_pack_48 (rX4_costAll ki ag me wa be pr nt cs (remN sz cr de) sz cr de sd) (remN sz cr de)) (2 ^ sz - 1) 1 (gup mo 0 0, gup le 0 0, 0, 0, nI (remN sz cr de))) := by
    rw [show 512 - 1 = (2 ^ sz - 1) + (512 - 2 ^ sz) by omega, gLp_add, show 1 + (2 ^ sz - 1) = 2 ^ sz by omega]
  rw [← q4] at q3
  have al := alive_eq h.1 h.2.1 h.2.2.1 h.2.2.2.2
  unfold rX10_sailings rX9_sailings rX4_pack
  rw [al]
  generalize (rX10_splits told s alone parts sz).2 = parts2 at hT q2
  generalize gLp (fX4_pack_48 (rX4_costAll ki ag me wa be pr nt cs (remN sz cr de) sz cr de sd) (remN sz cr de)) (512 - 1) 1 (gup mo 0 0, gup le 0 0, 0, 0, nI (remN sz cr de)) = z at q3
  generalize gLp (fX4_pack_48 (rX4_costAll ki ag me wa be pr nt cs (remN sz cr de) sz cr de sd) (remN sz cr de)) (2 ^ sz - 1) 1 (gup mo 0 0, gup le 0 0, 0, 0, nI (remN sz cr de)) = z2 at q2 q3
  generalize gLp (fX10_sailings_25 told s parts2 sz) (2 ^ sz - 1) 1 (0, nI (remN sz cr de)) = r at q2
  obtain ⟨n, c, s1, s2, s3, s4, s5⟩ := q2
  have hct : ∀ o, goN told s sz (remN sz cr de) o → ctN sz K A T W R o ≤ 891 := fun o g => (go_ct h g).1
  have b0 := tab_bd hct (by omega) s2 n c rfl
  obtain ⟨c0, t3, t4⟩ := hT r.1 s1
  have e2 := tab_uniq t3 s2
  subst e2
  have t5 : parts2 (nI r.1) = nI (100000 * n - c) := t4
  dsimp only
  rw [q3, s3, s4, s5, t5]
  have e1 : (100000 : Int32) = nI 100000 := rfl
  have e3 : (1 : Int32) = nI 1 := rfl
  have d1 : (nI (100000 * n - c) + 100000 - 1) / 100000 = nI n := by
    have q : (100000 * n - c + 100000 - 1) / 100000 = n := by omega
    rw [e1, e3, nI_add, pk_sub (by omega), pk_div (by omega) (by omega) (by omega), q]
  have d2 : 100000 * nI n - nI (100000 * n - c) = nI c := by
    have q : 100000 * n - (100000 * n - c) = c := by omega
    rw [e1, pk_mul, pk_sub (by omega), q]
  rw [d1, d2]
  by_cases w1 : what < 0
  · rw [if_pos w1, if_neg (fun z => (in01.mp z).1 w1)]
  · rw [if_neg w1]
    by_cases w2 : what ≤ 2
    · rw [if_pos w2, if_pos (in01.mpr ⟨w1, fun z => absurd w2 (Int32.not_le.mpr z)⟩)]
      by_cases w3 : what = 0
      · rw [if_pos w3, if_pos w3]
      · rw [if_neg w3, if_neg w3]
        by_cases w4 : what = 1
        · rw [if_pos w4, if_pos w4]
        · rw [if_neg w4, if_neg w4]
    · rw [if_neg w2, if_neg (fun z => w2 (i_nlt.mp (in01.mp z).2))]
end Sail
