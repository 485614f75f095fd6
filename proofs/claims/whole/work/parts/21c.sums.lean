/-! unlike sums, the nearest -/
/-- a sum that a set before n has -/
def SeenP (sz : Nat) (K A T : Nat → Nat) (t n x : Nat) : Prop := ∃ j, 1 ≤ j ∧ j < n ∧ rX9_within (nI j) (nI t) = true ∧ Sm sz K A T j = x
def dsN (W x : Nat) : Nat := if W ≤ x then x - W else W - x
theorem gWh_all {f : Nat → Bool → Bool × Bool} {c : Nat → Prop} (h0 : ∀ j, f j false = (true, false)) (h1 : ∀ j, c j → f j true = (false, true)) (h2 : ∀ j, ¬ c j → f j true = (false, false)) : ∀ (d i : Nat), (gWh f d i false = false) ∧ (gWh f d i true = true ↔ ∀ j, i ≤ j → j < i + d → c j)
  | 0, i => ⟨rfl, (fun _ j q1 q2 => by omega), (fun _ => rfl)⟩
  | d + 1, i => by
    have ih := gWh_all h0 h1 h2 d (i + 1)
    refine ⟨gWh_t (h0 i), ?_⟩
    by_cases g : c i
    · rw [gWh_f (h1 i g), ih.2]
      constructor
      · intro z j q1 q2
        by_cases e : j = i
        · rw [e]; exact g
        · exact z j (by omega) (by omega)
      · exact fun z j q1 q2 => z j (by omega) (by omega)
    · rw [gWh_f (h2 i g), ih.1]
      exact ⟨fun z => (by cases z), fun z => absurd (z i (Nat.le_refl i) (by omega)) g⟩
theorem abs_ds {W y : Nat} (hW : W ≤ 990) (hy : y ≤ 891) : absI (nI y - nI W) = nI (dsN W y) := by
  unfold absI dsN
  by_cases h : W ≤ y
  · rw [if_pos ((nI_dif0 (by omega) (by omega)).mpr h), if_pos h, pk_sub h]
  · rw [if_neg (fun z => h ((nI_dif0 (by omega) (by omega)).mp z)), if_neg h, Int32.zero_sub, Int32.neg_sub, pk_sub (by omega)]
theorem ds_le {W y : Nat} (hW : W ≤ 990) (hy : y ≤ 891) : dsN W y ≤ 990 := by
  unfold dsN
  split <;> omega
section Unlike
variable {sz : Nat} {K A C G : Nat → Nat} {W B R : Nat} {Z T : Nat → Nat} {mi : Nat} {told s : Int32 → Int32} {ki ag co pa me nt : Int32 → Int32} {sd bo cr de : Nat} {wa be pr : Int32} {cs : Int32 → Int32}
/-- the best so far -/
def NearP (sz : Nat) (K A T : Nat → Nat) (W t n : Nat) (u1 u2 : Int32) : Prop :=
  (u1 = -4 ∧ u2 = 9999 ∧ ∀ x, ¬ SeenP sz K A T t n x) ∨ ∃ x, x ≤ 891 ∧ SeenP sz K A T t n x ∧ u1 = nI x ∧ u2 = nI (dsN W x) ∧ ∀ y, SeenP sz K A T t n y → dsN W x < dsN W y ∨ (dsN W x = dsN W y ∧ x ≤ y)
theorem seen_up {t n x : Nat} (g : SeenP sz K A T t n x) : SeenP sz K A T t (n + 1) x := by
  obtain ⟨j, j1, j2, j3, j4⟩ := g
  exact ⟨j, j1, by omega, j3, j4⟩
theorem seen_cases {t n x : Nat} (g : SeenP sz K A T t (n + 1) x) : SeenP sz K A T t n x ∨ (rX9_within (nI n) (nI t) = true ∧ Sm sz K A T n = x) := by
  obtain ⟨j, j1, j2, j3, j4⟩ := g
  by_cases e : j = n
  · rw [e] at j3 j4
    exact Or.inr ⟨j3, j4⟩
  · exact Or.inl ⟨j, j1, by omega, j3, j4⟩
/-- is it new? -/
theorem new_iff (h : Al sz K A C G W B R Z T mi told s ki ag co pa me nt sd bo cr de wa be pr) {t i : Nat} (hi : i < 512) (hi1 : 1 ≤ i) {al : Int32 → Int32} (hal : ∀ j, 1 ≤ j → j < i → (rX9_within (nI j) (nI t) = true → al (nI j) = nI (Sm sz K A T j)) ∧ (¬ rX9_within (nI j) (nI t) = true → al (nI j) = -1)) :
    gWh (fX10_sums_82 (gup al (nI i) (nI (Sm sz K A T i))) i) (i - 1) 1 true = true ↔ ¬ SeenP sz K A T t i (Sm sz K A T i) := by
  have hS := Sm_le h.1 i
  have q := (gWh_all (f := fX10_sums_82 (gup al (nI i) (nI (Sm sz K A T i))) i) (c := fun j => ¬ gup al (nI i) (nI (Sm sz K A T i)) (nI j) = gup al (nI i) (nI (Sm sz K A T i)) (nI i)) (fun j => by
      unfold fX10_sums_82
      dsimp only
      rw [if_neg (by decide)]) (fun j g => by
      unfold fX10_sums_82
      dsimp only
      rw [if_pos rfl, if_neg g]) (fun j g => by
      unfold fX10_sums_82
      dsimp only
      rw [if_pos rfl, if_pos (Classical.not_not.mp g)]) (i - 1) 1).2
  rw [q]
  have e2 : ∀ j, j < i → gup al (nI i) (nI (Sm sz K A T i)) (nI j) = al (nI j) := fun j hj => if_neg (fun z => absurd ((nI_eq (by omega) (by omega)).mp z) (by omega))
  constructor
  · rintro g ⟨j, j1, j2, j3, j4⟩
    refine g j j1 (by omega) ?_
    rw [e2 j j2, gup_s, (hal j j1 j2).1 j3, j4]
  · intro g j j1 j2 z
    rw [e2 j (by omega), gup_s] at z
    by_cases w : rX9_within (nI j) (nI t) = true
    · have hSj := Sm_le h.1 j
      rw [(hal j j1 (by omega)).1 w] at z
      exact g ⟨j, j1, by omega, w, (nI_eq (by omega) (by omega)).mp z⟩
    · rw [(hal j j1 (by omega)).2 w] at z
      have := nI_pos' (n := Sm sz K A T i) (by omega)
      rw [← z] at this
      exact absurd this (by decide)
/-- a turn of the reference, of a set that is none of theirs -/
theorem sums_no (h : Al sz K A C G W B R Z T mi told s ki ag co pa me nt sd bo cr de wa be pr) {t i : Nat} (hi : i < 512) (w : ¬ rX9_within (nI i) (nI t) = true) {al : Int32 → Int32} {u0 u1 u2 : Int32} : fX10_sums_30 told s t sz i (al, u0, u1, u2) = (gup al (nI i) (-1), u0 + 0, u1, u2) := by
  have hW := h.1.2.2.2.1
  have q : ∀ a : Int32 → Int32, gWh (fX10_sums_82 a i) (i - 1) 1 false = false := fun a => (gWh_all (f := fX10_sums_82 a i) (c := fun j => ¬ a (nI j) = a (nI i)) (fun j => by
      unfold fX10_sums_82
      dsimp only
      rw [if_neg (by decide)]) (fun j g => by
      unfold fX10_sums_82
      dsimp only
      rw [if_pos rfl, if_neg g]) (fun j g => by
      unfold fX10_sums_82
      dsimp only
      rw [if_pos rfl, if_pos (Classical.not_not.mp g)]) (i - 1) 1).1
  unfold fX10_sums_30
  dsimp only
  rw [if_neg (fun z => w (wi_iff.mpr z)), h.2.1.2.1, if_neg (fun z => by
    have z1 := nI_pos' (n := W) (by omega)
    have z2 := Int32.le_trans z1 z
    exact absurd z2 (by decide)), q, if_neg (by decide)]
/-- a turn of the reference, of a set of theirs -/
theorem sums_yes (h : Al sz K A C G W B R Z T mi told s ki ag co pa me nt sd bo cr de wa be pr) {t i : Nat} (hi : i < 512) (hi1 : 1 ≤ i) (w : rX9_within (nI i) (nI t) = true) {al : Int32 → Int32} {u0 u1 u2 : Int32} {nw : Bool} (hn : gWh (fX10_sums_82 (gup al (nI i) (nI (Sm sz K A T i))) i) (i - 1) 1 true = nw) :
    fX10_sums_30 told s t sz i (al, u0, u1, u2) = if nw = true then (if nI (dsN W (Sm sz K A T i)) < u2 then (gup al (nI i) (nI (Sm sz K A T i)), u0 + 1, nI (Sm sz K A T i), nI (dsN W (Sm sz K A T i))) else if nI (dsN W (Sm sz K A T i)) = u2 then (if u1 ≤ nI (Sm sz K A T i) then (gup al (nI i) (nI (Sm sz K A T i)), u0 + 1, u1, u2) else (gup al (nI i) (nI (Sm sz K A T i)), u0 + 1, nI (Sm sz K A T i), nI (dsN W (Sm sz K A T i)))) else (gup al (nI i) (nI (Sm sz K A T i)), u0 + 1, u1, u2)) else (gup al (nI i) (nI (Sm sz K A T i)), u0 + 0, u1, u2) := by
  have hW := h.1.2.2.2.1
  have hS := Sm_le h.1 i
  unfold fX10_sums_30
  dsimp only
  rw [if_pos (wi_iff.mp w), ref_sum h.1 h.2.1 h.2.2.1 (by omega), h.2.1.2.1, if_neg (nI_pos (by omega)), hn]
  unfold dsN
  by_cases c : W ≤ Sm sz K A T i
  · rw [if_pos (nI_le c (by omega)), if_pos c, pk_sub c]
  · rw [if_neg (nI_ge (by omega) (by omega)), if_neg c, pk_sub (by omega)]
/-- the class's nearer of two -/
theorem nearer_eq {W x y : Nat} (hW : W ≤ 990) (hx : x ≤ 891) (hy : y ≤ 891) : rX4_nearer (nI W) (nI y) (nI x) = nI (if dsN W y = dsN W x then min y x else if dsN W x ≤ dsN W y then x else y) := by
  have h1 := ds_le hW hx
  have h2 := ds_le hW hy
  unfold rX4_nearer
  rw [abs_ds hW hx, abs_ds hW hy, minI_min (by omega) (by omega)]
  by_cases c : dsN W y = dsN W x
  · rw [if_pos (by rw [c]), if_pos c]
  · rw [if_neg (fun z => c ((nI_eq (by omega) (by omega)).mp z)), if_neg c]
    by_cases c2 : dsN W x ≤ dsN W y
    · rw [if_pos (nI_le c2 (by omega)), if_pos c2]
    · rw [if_neg (nI_ge (by omega) (by omega)), if_neg c2]
theorem fill_at {v : Int32} {N : Nat} (hN : N ≤ 2 ^ 31) {f : Int32 → Int32} {x : Nat} (hx : x < N) : rFill v N 0 f (nI x) = v := by
  unfold rFill
  exact gLp_fill (F := fun _ => v) hN (fun i c _ => rfl) f x hx
def SumJ (sz : Nat) (K A T : Nat → Nat) (W t n : Nat) (r : (Int32 → Int32) × Int32 × Int32 × Int32) (c : Int32 × (Int32 → Int32)) (v : Int32) : Prop :=
  r.2.1 = c.1 ∧ v = r.2.2.1 ∧ (∀ j, 1 ≤ j → j < n → (rX9_within (nI j) (nI t) = true → r.1 (nI j) = nI (Sm sz K A T j)) ∧ (¬ rX9_within (nI j) (nI t) = true → r.1 (nI j) = -1)) ∧
  (∀ x, x ≤ 891 → (SeenP sz K A T t n x → c.2 (nI x) = 1) ∧ (¬ SeenP sz K A T t n x → c.2 (nI x) = 0)) ∧ NearP sz K A T W t n r.2.2.1 r.2.2.2
theorem sum_step (h : Al sz K A C G W B R Z T mi told s ki ag co pa me nt sd bo cr de wa be pr) {t i : Nat} (hi : i < 512) (hi1 : 1 ≤ i) {r : (Int32 → Int32) × Int32 × Int32 × Int32} {c : Int32 × (Int32 → Int32)} {v : Int32} (J : SumJ sz K A T W t i r c v) : SumJ sz K A T W t (i + 1) (fX10_sums_30 told s t sz i r) (fX4_unlikeTotals_20 ki ag nt t sz sd i c) (fX4_nearestTotal_13 ki ag wa nt t sz sd i v) := by
  obtain ⟨al, u0, u1, u2⟩ := r
  obtain ⟨c0, se⟩ := c
  obtain ⟨j1, j2, j3, j4, j5⟩ := J
  dsimp only at j1 j2 j3 j4 j5
  have hW := h.1.2.2.2.1
  have hS := Sm_le h.1 i
  have hup : ∀ x j, j < i → gup al (nI i) x (nI j) = al (nI j) := fun x j hj => if_neg (fun z => absurd ((nI_eq (by omega) (by omega)).mp z) (by omega))
  have z0 : ∀ x : Int32, x + 0 = x := fun x => Int32.add_zero x
  have j2 := j2.symm
  subst j2
  subst j1
  by_cases w : rX9_within (nI i) (nI t) = true
  · have hnew := new_iff (t := t) h hi hi1 j3
    have hseen : SeenP sz K A T t (i + 1) (Sm sz K A T i) := ⟨i, hi1, by omega, w, rfl⟩
    have k3 : ∀ j, 1 ≤ j → j < i + 1 → (rX9_within (nI j) (nI t) = true → gup al (nI i) (nI (Sm sz K A T i)) (nI j) = nI (Sm sz K A T j)) ∧ (¬ rX9_within (nI j) (nI t) = true → gup al (nI i) (nI (Sm sz K A T i)) (nI j) = -1) := by
      intro j q1 q2
      by_cases e : j = i
      · subst e
        exact ⟨fun _ => gup_s, fun z => absurd w z⟩
      · rw [hup _ j (by omega)]
        exact j3 j q1 (by omega)
    have k4 : ∀ x, x ≤ 891 → (SeenP sz K A T t (i + 1) x → gup se (nI (Sm sz K A T i)) 1 (nI x) = 1) ∧ (¬ SeenP sz K A T t (i + 1) x → gup se (nI (Sm sz K A T i)) 1 (nI x) = 0) := by
      intro x hx
      by_cases e : x = Sm sz K A T i
      · rw [e]
        exact ⟨fun _ => gup_s, fun z => absurd hseen z⟩
      · have e2 : gup se (nI (Sm sz K A T i)) 1 (nI x) = se (nI x) := if_neg (fun z => e ((nI_eq (by omega) (by omega)).mp z))
        rw [e2]
        refine ⟨fun z => (j4 x hx).1 ?_, fun z => (j4 x hx).2 (fun z2 => z (seen_up z2))⟩
        rcases seen_cases z with z | z
        · exact z
        · exact absurd z.2.symm e
    have ec : fX4_unlikeTotals_20 ki ag nt t sz sd i (u0, se) = (u0 + (1 - se (nI (Sm sz K A T i))), gup se (nI (Sm sz K A T i)) 1) := by
      unfold fX4_unlikeTotals_20
      dsimp only
      rw [if_pos w, cls_sum h.1 h.2.2.2.1 h.2.2.2.2, rAt_in (by omega) (by decide), rPut_in (by omega) (by decide)]
    have en : fX4_nearestTotal_13 ki ag wa nt t sz sd i u1 = if u1 = -4 then nI (Sm sz K A T i) else rX4_nearer (nI W) (nI (Sm sz K A T i)) u1 := by
      unfold fX4_nearestTotal_13
      dsimp only
      rw [if_pos w, cls_sum h.1 h.2.2.2.1 h.2.2.2.2, h.2.2.2.1.1]
    rw [ec, en]
    by_cases sn : SeenP sz K A T t i (Sm sz K A T i)
    · have hb : gWh (fX10_sums_82 (gup al (nI i) (nI (Sm sz K A T i))) i) (i - 1) 1 true = false := by
        cases q : gWh (fX10_sums_82 (gup al (nI i) (nI (Sm sz K A T i))) i) (i - 1) 1 true
        · rfl
        · exact absurd sn (hnew.mp q)
      rw [sums_yes h hi hi1 w hb, if_neg (by decide), (j4 _ hS).1 sn]
      have near2 : NearP sz K A T W t (i + 1) u1 u2 := by
        rcases j5 with ⟨n1, n2, n3⟩ | ⟨x, x1, x2, x3, x4, x5⟩
        · exact absurd sn (n3 _)
        · refine Or.inr ⟨x, x1, seen_up x2, x3, x4, fun y hy => ?_⟩
          rcases seen_cases hy with hy | hy
          · exact x5 y hy
          · rw [← hy.2]; exact x5 _ sn
      refine ⟨rfl, ?_, k3, k4, near2⟩
      rcases j5 with ⟨n1, n2, n3⟩ | ⟨x, x1, x2, x3, x4, x5⟩
      · exact absurd sn (n3 _)
      · dsimp only
        rw [x3, if_neg (nI_ne4 (by omega)), nearer_eq hW x1 hS]
        rcases x5 _ sn with q | q
        · rw [if_neg (by omega), if_pos (by omega)]
        · rw [if_pos q.1.symm, Nat.min_eq_right q.2]
    · have hb := hnew.mpr sn
      rw [sums_yes h hi hi1 w hb, if_pos rfl, (j4 _ hS).2 sn]
      have d1 := ds_le hW hS
      rcases j5 with ⟨n1, n2, n3⟩ | ⟨x, x1, x2, x3, x4, x5⟩
      · subst n1
        subst n2
        rw [if_pos rfl, if_pos (show nI (dsN W (Sm sz K A T i)) < 9999 from nI_lt (b := 9999) (by omega) (by decide))]
        refine ⟨rfl, rfl, k3, k4, Or.inr ⟨_, hS, hseen, rfl, rfl, fun y hy => ?_⟩⟩
        rcases seen_cases hy with hy | hy
        · exact absurd hy (n3 y)
        · rw [hy.2]; exact Or.inr ⟨rfl, Nat.le_refl _⟩
      · have d2 := ds_le hW x1
        subst x3
        subst x4
        rw [if_neg (nI_ne4 (by omega)), nearer_eq hW x1 hS]
        by_cases c1 : dsN W (Sm sz K A T i) < dsN W x
        · rw [if_pos (nI_lt c1 (by omega)), if_neg (by omega), if_neg (by omega)]
          refine ⟨rfl, rfl, k3, k4, Or.inr ⟨_, hS, hseen, rfl, rfl, fun y hy => ?_⟩⟩
          rcases seen_cases hy with hy | hy
          · have := x5 y hy
            omega
          · rw [hy.2]; exact Or.inr ⟨rfl, Nat.le_refl _⟩
        · rw [if_neg (nI_nlt (by omega) (by omega))]
          by_cases c2 : dsN W (Sm sz K A T i) = dsN W x
          · rw [if_pos (by rw [c2]), if_pos c2]
            by_cases c3 : x ≤ Sm sz K A T i
            · rw [if_pos (nI_le c3 (by omega)), Nat.min_eq_right c3]
              refine ⟨rfl, rfl, k3, k4, Or.inr ⟨x, x1, seen_up x2, rfl, rfl, fun y hy => ?_⟩⟩
              rcases seen_cases hy with hy | hy
              · exact x5 y hy
              · rw [← hy.2]; exact Or.inr ⟨c2.symm, c3⟩
            · rw [if_neg (nI_ge (by omega) (by omega)), Nat.min_eq_left (by omega)]
              refine ⟨rfl, rfl, k3, k4, Or.inr ⟨_, hS, hseen, rfl, rfl, fun y hy => ?_⟩⟩
              rcases seen_cases hy with hy | hy
              · have := x5 y hy
                omega
              · rw [hy.2]; exact Or.inr ⟨rfl, Nat.le_refl _⟩
          · rw [if_neg (fun z => c2 ((nI_eq (by omega) (by omega)).mp z)), if_neg c2, if_pos (by omega)]
            refine ⟨rfl, rfl, k3, k4, Or.inr ⟨x, x1, seen_up x2, rfl, rfl, fun y hy => ?_⟩⟩
            rcases seen_cases hy with hy | hy
            · exact x5 y hy
            · rw [← hy.2]; exact Or.inl (by omega)
  · have ec : fX4_unlikeTotals_20 ki ag nt t sz sd i (u0, se) = (u0, se) := by
      unfold fX4_unlikeTotals_20
      dsimp only
      rw [if_neg w]
    have en : fX4_nearestTotal_13 ki ag wa nt t sz sd i u1 = u1 := by
      unfold fX4_nearestTotal_13
      dsimp only
      rw [if_neg w]
    have sc : ∀ x, SeenP sz K A T t (i + 1) x → SeenP sz K A T t i x := by
      intro x z
      rcases seen_cases z with z | z
      · exact z
      · exact absurd z.1 w
    rw [ec, en, sums_no h hi w, z0]
    refine ⟨rfl, rfl, fun j q1 q2 => ?_, fun x hx => ⟨fun z => (j4 x hx).1 (sc x z), fun z => (j4 x hx).2 (fun z2 => z (seen_up z2))⟩, ?_⟩
    · dsimp only
      by_cases e : j = i
      · subst e
        exact ⟨fun z => absurd z w, fun _ => gup_s⟩
      · rw [hup _ j (by omega)]
        exact j3 j q1 (by omega)
    · rcases j5 with ⟨n1, n2, n3⟩ | ⟨x, x1, x2, x3, x4, x5⟩
      · exact Or.inl ⟨n1, n2, fun x z => n3 x (sc x z)⟩
      · exact Or.inr ⟨x, x1, seen_up x2, x3, x4, fun y hy => x5 y (sc y hy)⟩
theorem sum_lp (h : Al sz K A C G W B R Z T mi told s ki ag co pa me nt sd bo cr de wa be pr) (t : Nat) (alone se : Int32 → Int32) : ∀ d, d ≤ 511 → SumJ sz K A T W t (1 + d) (gLp (fX10_sums_30 told s t sz) d 1 (alone, 0, (-4), 9999)) (gLp (fX4_unlikeTotals_20 ki ag nt t sz sd) d 1 (0, rFill 0 892 0 se)) (gLp (fX4_nearestTotal_13 ki ag wa nt t sz sd) d 1 (-4))
  | 0, _ => by
    have no : ∀ x, ¬ SeenP sz K A T t (1 + 0) x := by
      rintro x ⟨j, j1, j2, _, _⟩
      omega
    have fl : ∀ x, x ≤ 891 → rFill 0 892 0 se (nI x) = 0 := fun x hx => fill_at (by decide) (by omega)
    rw [gLp, gLp, gLp]
    generalize rFill 0 892 0 se = se2 at fl
    exact ⟨rfl, rfl, (fun j q1 q2 => by omega), fun x hx => ⟨fun z => absurd z (no x), fun _ => fl x hx⟩, Or.inl ⟨rfl, rfl, no⟩⟩
  | d + 1, hd => by
    rw [gLp_succ, gLp_succ, gLp_succ]
    have k1 : 1 + d < 512 := by omega
    have k2 : 1 ≤ 1 + d := by omega
    exact sum_step h k1 k2 (sum_lp h t alone se d (by omega))
theorem eq_sums (h : Al sz K A C G W B R Z T mi told s ki ag co pa me nt sd bo cr de wa be pr) (alone se : Int32 → Int32) (what : Int32) : (rX10_sums told s alone what sz).1 = (rX9_sums ki ag co wa nt (nI mi) se what sz cr de sd).1 := by
  have hP := al_P h
  obtain ⟨q1, q2, _⟩ := sum_lp h (presN co (nI mi) sz cr de) alone se (presN co (nI mi) sz cr de) (by omega)
  have e : 512 - 1 = (presN co (nI mi) sz cr de) + (511 - (presN co (nI mi) sz cr de)) := by omega
  have m1 : gLp (fX4_unlikeTotals_20 ki ag nt (presN co (nI mi) sz cr de) sz sd) (512 - 1) 1 (0, rFill 0 892 0 se) = gLp (fX4_unlikeTotals_20 ki ag nt (presN co (nI mi) sz cr de) sz sd) (presN co (nI mi) sz cr de) 1 (0, rFill 0 892 0 se) := by
    rw [e]
    refine gLp_more (fun j a r1 r2 => ?_)
    unfold fX4_unlikeTotals_20
    dsimp only
    rw [if_neg (fun z => absurd (sub_le ((within_iff (by omega)).mp z)) (by omega))]
  have m2 : gLp (fX4_nearestTotal_13 ki ag wa nt (presN co (nI mi) sz cr de) sz sd) (512 - 1) 1 (-4) = gLp (fX4_nearestTotal_13 ki ag wa nt (presN co (nI mi) sz cr de) sz sd) (presN co (nI mi) sz cr de) 1 (-4) := by
    rw [e]
    refine gLp_more (fun j a r1 r2 => ?_)
    unfold fX4_nearestTotal_13
    dsimp only
    rw [if_neg (fun z => absurd (sub_le ((within_iff (by omega)).mp z)) (by omega))]
  unfold rX10_sums rX9_sums rX4_unlikeTotals rX4_nearestTotal
  rw [al_t h, m1, m2, Nat.add_sub_cancel, q1, q2]
  by_cases w1 : what < 0
  · rw [if_pos w1, if_neg (fun z => (in01.mp z).1 w1)]
  · rw [if_neg w1]
    by_cases w2 : what ≤ 1
    · rw [if_pos w2, if_pos (in01.mpr ⟨w1, fun z => absurd w2 (Int32.not_le.mpr z)⟩)]
      by_cases w3 : what = 0
      · rw [if_pos w3, if_pos w3]
      · rw [if_neg w3, if_neg w3]
    · rw [if_neg w2, if_neg (fun z => w2 (i_nlt.mp (in01.mp z).2))]
end Unlike
