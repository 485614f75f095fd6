/-! the wait -/
def fstN (TH : Nat → Bool) : Nat → Nat → Int32
  | 0, _ => -4
  | d + 1, i => if TH i = true then nI i else fstN TH d (i + 1)
theorem fst_no {TH : Nat → Bool} : ∀ (d i : Nat), (∀ k, i ≤ k → k < i + d → ¬ TH k = true) → fstN TH d i = -4
  | 0, _, _ => rfl
  | d + 1, i, h => by
    rw [fstN, if_neg (h i (Nat.le_refl i) (by omega))]
    exact fst_no d (i + 1) (fun k h1 h2 => h k (by omega) (by omega))
theorem fst_at {TH : Nat → Bool} {m : Nat} (hm : TH m = true) : ∀ (d i : Nat), (∀ k, i ≤ k → k < m → ¬ TH k = true) → i ≤ m → m < i + d → fstN TH d i = nI m
  | 0, i, _, h1, h2 => by omega
  | d + 1, i, h, h1, h2 => by
    rw [fstN]
    by_cases e : i = m
    · rw [e, if_pos hm]
    · rw [if_neg (h i (Nat.le_refl i) (by omega))]
      exact fst_at hm d (i + 1) (fun k q1 q2 => h k (by omega) q2) (by omega) (by omega)
theorem gWh_any {f : Nat → Bool → Bool × Bool} {good : Nat → Prop} (h1 : ∀ j, f j true = (true, true)) (h2 : ∀ j, good j → f j false = (false, true)) (h3 : ∀ j, ¬ good j → f j false = (false, false)) : ∀ (d i : Nat), (gWh f d i true = true) ∧ (gWh f d i false = true ↔ ∃ j, i ≤ j ∧ j < i + d ∧ good j)
  | 0, i => ⟨rfl, (fun z => by cases z), (fun ⟨j, q1, q2, _⟩ => by omega)⟩
  | d + 1, i => by
    refine ⟨gWh_t (h1 i), ?_⟩
    have ih := gWh_any h1 h2 h3 d (i + 1)
    by_cases g : good i
    · rw [gWh_f (h2 i g)]
      exact ⟨fun _ => ⟨i, Nat.le_refl i, by omega, g⟩, fun _ => ih.1⟩
    · rw [gWh_f (h3 i g), ih.2]
      constructor
      · rintro ⟨j, q1, q2, q3⟩
        exact ⟨j, by omega, by omega, q3⟩
      · rintro ⟨j, q1, q2, q3⟩
        refine ⟨j, ?_, by omega, q3⟩
        rcases Nat.lt_or_ge i j with q | q
        · exact q
        · have e : j = i := by omega
          rw [e] at q3
          exact absurd q3 g
def mxN (g : Nat → Nat) : Nat → Nat
  | 0 => 0
  | n + 1 => max (mxN g n) (g n)
theorem mx_le {g : Nat → Nat} {k : Nat} : ∀ n, mxN g n ≤ k ↔ ∀ p, p < n → g p ≤ k
  | 0 => ⟨fun _ p hp => absurd hp (Nat.not_lt_zero p), fun _ => Nat.zero_le k⟩
  | n + 1 => by
    rw [mxN, Nat.max_le, mx_le n]
    constructor
    · rintro ⟨h1, h2⟩ p hp
      by_cases e : p = n
      · rw [e]; exact h2
      · exact h1 p (by omega)
    · intro h
      exact ⟨fun p hp => h p (by omega), h n (by omega)⟩
theorem maxI_max {x a b : Nat} (hx : x < 2 ^ 30) (ha : a < 2 ^ 30) (hb : b < 2 ^ 30) : maxI (nI x) (nI a - nI b) = nI (max x (a - b)) := by
  unfold maxI
  by_cases h : b ≤ a
  · rw [pk_sub h]
    by_cases h2 : x < a - b
    · rw [if_pos (nI_lt h2 (by omega)), Nat.max_eq_right (by omega)]
    · rw [if_neg (nI_nlt (by omega) (by omega)), Nat.max_eq_left (by omega)]
  · have h1 : nI a - nI b < 0 := (nI_dif ha hb).mpr (by omega)
    have h2 : ¬ nI x < nI a - nI b := fun z => absurd (Int32.lt_trans z h1) (nI_pos (by omega))
    rw [if_neg h2, show a - b = 0 by omega, Nat.max_eq_left (by omega)]
/-- how long a set waits -/
def wtG (C : Nat → Nat) (mi a p : Nat) : Nat := if a.testBit p = true then C p - mi else 0
def wtN (sz : Nat) (C : Nat → Nat) (mi a : Nat) : Nat := mxN (wtG C mi a) sz
theorem minI_min {a b : Nat} (ha : a < 2 ^ 31) (hb : b < 2 ^ 31) : minI (nI a) (nI b) = nI (min a b) := by
  unfold minI
  by_cases h : b < a
  · rw [if_pos (nI_lt h ha), Nat.min_eq_right (by omega)]
  · rw [if_neg (nI_nlt (by omega) hb), Nat.min_eq_left (by omega)]
section Waits
variable {sz : Nat} {K A C G : Nat → Nat} {W B R : Nat} {Z T : Nat → Nat} {mi : Nat} {told s : Int32 → Int32} {ki ag co pa me nt : Int32 → Int32} {sd bo cr de : Nat} {wa be pr : Int32} {cs : Int32 → Int32}
theorem wt_le (h : Al sz K A C G W B R Z T mi told s ki ag co pa me nt sd bo cr de wa be pr) {a k : Nat} (ha : a < 2 ^ sz) : wtN sz C mi a ≤ k ↔ ∀ p, p < sz → a.testBit p = true → C p ≤ mi + k := by
  unfold wtN
  rw [mx_le]
  constructor
  · intro g p hp hb
    have := g p hp
    unfold wtG at this
    rw [if_pos hb] at this
    omega
  · intro g p hp
    unfold wtG
    split
    · rename_i hb
      have := g p hp hb
      omega
    · omega
theorem wt_99 (h : Al sz K A C G W B R Z T mi told s ki ag co pa me nt sd bo cr de wa be pr) (a : Nat) : wtN sz C mi a ≤ 99 := by
  unfold wtN
  rw [mx_le]
  intro p hp
  obtain ⟨h1, h2, h3, h4, h5, h6, h7, h8⟩ := h.1
  obtain ⟨k1, k2, k3, k4, k5, k6, k7⟩ := h8 p hp
  unfold wtG
  split <;> omega
theorem waitFor_eq (h : Al sz K A C G W B R Z T mi told s ki ag co pa me nt sd bo cr de wa be pr) (a : Nat) : rX4_waitFor co (nI mi) a sz = nI (wtN sz C mi a) := by
  unfold rX4_waitFor
  have key : ∀ k, k ≤ sz → mxN (wtG C mi a) k ≤ 99 := by
    intro k hk
    rw [mx_le]
    intro p hp
    obtain ⟨h1, h2, h3, h4, h5, h6, h7, h8⟩ := h.1
    obtain ⟨k1, k2, k3, k4, k5, k6, k7⟩ := h8 p (by omega)
    unfold wtG
    split <;> omega
  refine gLp_inv (n := sz) (fun k x => x = nI (mxN (wtG C mi a) k)) ?_ sz 0 0 (by omega) rfl
  rintro i x hi rfl
  have h9 := key i (by omega)
  have hC := (h.2.2.2.1.2.2.2.2.1 i hi).2.2.1
  obtain ⟨h1, h2, h3, h4, h5, h6, h7, h8⟩ := h.1
  obtain ⟨k1, k2, k3, k4, k5, k6, k7⟩ := h8 i hi
  unfold fX4_waitFor_4
  dsimp only
  rw [hC, mxN]
  unfold wtG
  by_cases hb : a.testBit i = true
  · rw [if_pos hb, if_pos hb]
    exact maxI_max (by unfold wtG at h9; omega) (by omega) (by omega)
  · rw [if_neg hb, if_neg hb, Nat.max_eq_left (Nat.zero_le _)]
/-- the state, k minutes on -/
theorem al_later (h : Al sz K A C G W B R Z T mi told s ki ag co pa me nt sd bo cr de wa be pr) {k : Nat} (hk : k < 100) (hm : mi ≤ 39000) : Al sz K A C G W B R Z T (mi + k) told (gup s 18 (nI (mi + k))) ki ag co pa me nt sd bo cr de wa be pr := by
  obtain ⟨h1, h2, h3, h4, h5⟩ := h
  refine ⟨?_, h2, ⟨gup_s, fun p hp => ?_⟩, h4, h5⟩
  · obtain ⟨b1, b2, b3, b4, b5, b6, b7, b8⟩ := h1
    refine ⟨b1, b2, b3, b4, b5, b6, by omega, fun p hp => ?_⟩
    obtain ⟨k1, k2, k3, k4, k5, k6, k7⟩ := b8 p hp
    exact ⟨k1, k2, k3, k4, k5, k6, fun z => by have := k7 z; omega⟩
  · have hs := h1.2.1
    have e1 : ¬ nI p = 18 := fun z => absurd ((nI_eq (b := 18) (by omega) (by decide)).mp z) (by omega)
    have e2 : ¬ nI (9 + p) = 18 := fun z => absurd ((nI_eq (b := 18) (by omega) (by decide)).mp z) (by omega)
    unfold gup
    rw [if_neg e1, if_neg e2]
    exact h3.2 p hp
theorem th_iff (h : Al sz K A C G W B R Z T mi told s ki ag co pa me nt sd bo cr de wa be pr) {k : Nat} (hk : k < 100) (hm : mi ≤ 39000) : rX10_isThere told (gup s 18 (nI (mi + k))) sz = true ↔ ∃ i, 1 ≤ i ∧ i < 512 ∧ GoP told s sz (remN sz cr de) i ∧ wtN sz C mi i ≤ k := by
  have h' := al_later h hk hm
  have hP := al_P h'
  have hrl := rem_lt h.2.2.2.2
  have hp9 := pw9 h.1.2.1
  unfold rX10_isThere
  rw [al_t h', Nat.add_sub_cancel]
  have e1 : ∀ i, i < 512 → (GoP told (gup s 18 (nI (mi + k))) sz (presN co (nI (mi + k)) sz cr de) i ↔ GoP told s sz (remN sz cr de) i ∧ wtN sz C mi i ≤ k) := by
    intro i hi
    unfold GoP
    rw [ref_sails h'.1 h'.2.1 h'.2.2.1 h'.2.2.2.2 (a := i) (by omega), ref_sails h.1 h.2.1 h.2.2.1 h.2.2.2.2 (a := i) (by omega), within_iff (by omega), within_iff (by omega)]
    constructor
    · rintro ⟨w1, w2⟩
      have w3 : ∀ p, i.testBit p = true → ((remN sz cr de)).testBit p = true := fun p hp => pres_rem (w1 p hp)
      refine ⟨⟨w3, w2⟩, (wt_le h (Nat.lt_of_le_of_lt (sub_le w3) hrl)).mpr (fun p hp hb => ?_)⟩
      have := w1 p hb
      rw [pres_tb h'.1 h'.2.2.2.1 h'.2.2.2.2 hp, Bool.and_eq_true] at this
      exact of_decide_eq_true this.1
    · rintro ⟨⟨w1, w2⟩, w3⟩
      have hi2 : i < 2 ^ sz := Nat.lt_of_le_of_lt (sub_le w1) hrl
      refine ⟨fun p hb => ?_, w2⟩
      have hp : p < sz := by
        refine Nat.lt_of_not_le (fun z => ?_)
        rw [tb_hi hi2 z] at hb
        cases hb
      have w4 := w1 p hb
      rw [rem_tb h.2.2.2.2 hp] at w4
      rw [pres_tb h'.1 h'.2.2.2.1 h'.2.2.2.2 hp, w4, Bool.and_true]
      exact decide_eq_true ((wt_le h hi2).mp w3 p hp hb)
  have q := (gWh_any (f := fX10_isThere_9 told (gup s 18 (nI (mi + k))) (presN co (nI (mi + k)) sz cr de) sz) (good := fun i => GoP told (gup s 18 (nI (mi + k))) sz (presN co (nI (mi + k)) sz cr de) i) (fun j => by
      unfold fX10_isThere_9
      dsimp only
      rw [if_pos rfl]) (fun j g => by
      unfold fX10_isThere_9
      dsimp only
      rw [if_neg (by decide), if_pos (wi_iff.mp g.1), if_pos g.2]) (fun j g => by
      unfold fX10_isThere_9
      dsimp only
      rw [if_neg (by decide)]
      by_cases g1 : rX9_within (nI j) (nI (presN co (nI (mi + k)) sz cr de)) = true
      · rw [if_pos (wi_iff.mp g1), if_neg (fun z => g ⟨g1, z⟩)]
      · rw [if_neg (fun z => g1 (wi_iff.mpr z))]) (presN co (nI (mi + k)) sz cr de) 1).2
  rw [q]
  constructor
  · rintro ⟨j, j1, j2, j3⟩
    have := (e1 j (by omega)).mp j3
    exact ⟨j, j1, by omega, this.1, this.2⟩
  · rintro ⟨j, j1, j2, j3, j4⟩
    have g := (e1 j j2).mpr ⟨j3, j4⟩
    have := go_le j2 g
    exact ⟨j, j1, by omega, g⟩
theorem waits_lp (h : Al sz K A C G W B R Z T mi told s ki ag co pa me nt sd bo cr de wa be pr) (hm : mi ≤ 39000) : ∀ (d i : Nat) (s2 : Int32 → Int32), i + d = 100 → (∀ k, ¬ k = 18 → s2 k = s k) → (∀ k, ¬ k = 18 → (gWh (fX10_waits_13 told (nI mi) sz) d i (s2, (-4))).1 k = s k) ∧ (gWh (fX10_waits_13 told (nI mi) sz) d i (s2, (-4))).2 = fstN (fun k => rX10_isThere told (gup s 18 (nI (mi + k))) sz) d i := by
  intro d
  induction d with
  | zero => exact fun i s2 _ h2 => ⟨h2, rfl⟩
  | succ d ih =>
    intro i s2 hi h2
    have e1 : gup s2 18 (nI mi + nI i) = gup s 18 (nI (mi + i)) := by
      rw [nI_add]
      funext k
      unfold gup
      by_cases hk : k = 18
      · rw [if_pos hk, if_pos hk]
      · rw [if_neg hk, if_neg hk, h2 k hk]
    have h3 : ∀ k, ¬ k = 18 → gup s 18 (nI (mi + i)) k = s k := fun k hk => if_neg hk
    rw [fstN]
    by_cases t : rX10_isThere told (gup s 18 (nI (mi + i))) sz = true
    · have e2 : fX10_waits_13 told (nI mi) sz i (s2, -4) = (false, (gup s 18 (nI (mi + i)), nI i)) := by
        unfold fX10_waits_13
        dsimp only
        rw [if_pos rfl, e1, if_pos t]
      have e3 : gWh (fX10_waits_13 told (nI mi) sz) d (i + 1) (gup s 18 (nI (mi + i)), nI i) = (gup s 18 (nI (mi + i)), nI i) := by
        cases d with
        | zero => rfl
        | succ d =>
          refine gWh_t ?_
          unfold fX10_waits_13
          dsimp only
          rw [if_neg (nI_ne4 (by omega))]
      rw [gWh_f e2, e3, if_pos t]
      exact ⟨h3, rfl⟩
    · have e2 : fX10_waits_13 told (nI mi) sz i (s2, -4) = (false, (gup s 18 (nI (mi + i)), -4)) := by
        unfold fX10_waits_13
        dsimp only
        rw [if_pos rfl, e1, if_neg t]
      rw [gWh_f e2, if_neg t]
      exact ih (i + 1) _ (by omega) h3
theorem wait_lp (h : Al sz K A C G W B R Z T mi told s ki ag co pa me nt sd bo cr de wa be pr) : ∀ (d : Nat), d ≤ 511 → (gLp (fX4_shortestWait_16 co (nI mi) (rX4_costAll ki ag me wa be pr nt cs (remN sz cr de) sz cr de sd) sz) d 1 (-4) = -4 ∧ ∀ j, 1 ≤ j → j < 1 + d → ¬ GoP told s sz (remN sz cr de) j) ∨ ∃ j, 1 ≤ j ∧ j < 1 + d ∧ GoP told s sz (remN sz cr de) j ∧ gLp (fX4_shortestWait_16 co (nI mi) (rX4_costAll ki ag me wa be pr nt cs (remN sz cr de) sz cr de sd) sz) d 1 (-4) = nI (wtN sz C mi j) ∧ ∀ k, 1 ≤ k → k < 1 + d → GoP told s sz (remN sz cr de) k → wtN sz C mi j ≤ wtN sz C mi k
  | 0, _ => Or.inl ⟨rfl, fun j h1 h2 => by omega⟩
  | d + 1, hd => by
    have ih := wait_lp h d (by omega)
    rw [gLp_succ]
    generalize gLp (fX4_shortestWait_16 co (nI mi) (rX4_costAll ki ag me wa be pr nt cs (remN sz cr de) sz cr de sd) sz) d 1 (-4) = x at ih ⊢
    unfold fX4_shortestWait_16
    dsimp only
    by_cases g : GoP told s sz (remN sz cr de) (1 + d)
    · rw [if_neg (fun z => (csR_no h (by omega)).mp z g), waitFor_eq h]
      rcases ih with ⟨i1, i2⟩ | ⟨j, j1, j2, j3, j4, j5⟩
      · rw [i1, if_pos rfl]
        refine Or.inr ⟨1 + d, by omega, by omega, g, rfl, fun k k1 k2 k3 => ?_⟩
        by_cases e : k = 1 + d
        · rw [e]; exact Nat.le_refl _
        · exact absurd k3 (i2 k k1 (by omega))
      · have w1 := wt_99 h j
        have w2 := wt_99 h (1 + d)
        rw [j4, if_neg (nI_ne4 (by omega)), minI_min (by omega) (by omega)]
        by_cases c : wtN sz C mi j ≤ wtN sz C mi (1 + d)
        · refine Or.inr ⟨j, j1, by omega, j3, by rw [Nat.min_eq_left c], fun k k1 k2 k3 => ?_⟩
          by_cases e : k = 1 + d
          · rw [e]; exact c
          · exact j5 k k1 (by omega) k3
        · refine Or.inr ⟨1 + d, by omega, by omega, g, by rw [Nat.min_eq_right (by omega)], fun k k1 k2 k3 => ?_⟩
          by_cases e : k = 1 + d
          · rw [e]; exact Nat.le_refl _
          · have := j5 k k1 (by omega) k3
            omega
    · rw [if_pos ((csR_no h (by omega)).mpr g)]
      rcases ih with ⟨i1, i2⟩ | ⟨j, j1, j2, j3, j4, j5⟩
      · refine Or.inl ⟨i1, fun j j1 j2 => ?_⟩
        by_cases e : j = 1 + d
        · rw [e]; exact g
        · exact i2 j j1 (by omega)
      · refine Or.inr ⟨j, j1, by omega, j3, j4, fun k k1 k2 k3 => ?_⟩
        by_cases e : k = 1 + d
        · rw [e] at k3; exact absurd k3 g
        · exact j5 k k1 (by omega) k3
theorem eq_waits (h : Al sz K A C G W B R Z T mi told s ki ag co pa me nt sd bo cr de wa be pr) (hm : mi ≤ 39000) : (rX10_waits told s sz).1 = (rX9_waits ki ag co me wa be pr nt (nI mi) cs sz cr de sd).1 ∧ (rX10_waits told s sz).2 = s := by
  have e3 : (rX9_waits ki ag co me wa be pr nt (nI mi) cs sz cr de sd).1 = gLp (fX4_shortestWait_16 co (nI mi) (rX4_costAll ki ag me wa be pr nt cs (remN sz cr de) sz cr de sd) sz) (512 - 1) 1 (-4) := by
    unfold rX9_waits rX4_shortestWait
    dsimp only
  obtain ⟨q1, q2⟩ := waits_lp h hm 100 0 s rfl (fun k _ => rfl)
  rw [e3]
  unfold rX10_waits
  dsimp only
  rw [h.2.2.1.1]
  constructor
  · rw [q2]
    rcases wait_lp (cs := cs) h (512 - 1) (by omega) with ⟨i1, i2⟩ | ⟨j, j1, j2, j3, j4, j5⟩
    · rw [i1]
      refine fst_no 100 0 (fun k k1 k2 t => ?_)
      obtain ⟨i, i3, i4, i5, _⟩ := (th_iff h (by omega) hm).mp t
      exact i2 i i3 (by omega) i5
    · have w1 := wt_99 h j
      rw [j4]
      refine fst_at (m := wtN sz C mi j) ((th_iff h (by omega) hm).mpr ⟨j, j1, by omega, j3, Nat.le_refl _⟩) 100 0 (fun k k1 k2 t => ?_) (Nat.zero_le _) (by omega)
      obtain ⟨i, i3, i4, i5, i6⟩ := (th_iff h (by omega) hm).mp t
      have := j5 i i3 (by omega) i5
      omega
  · funext k
    unfold gup
    by_cases hk : k = 18
    · rw [if_pos hk, hk, h.2.2.1.1]
    · rw [if_neg hk]
      exact q1 k hk
end Waits
