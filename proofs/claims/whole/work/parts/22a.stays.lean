/-! the chance that those who stay can sail -/
def cntK (i k : Nat) : Nat := sumN (fun p => if i.testBit p = true then 1 else 0) k
def prodN (g : Nat → Nat) : Nat → Nat
  | 0 => 1
  | n + 1 => prodN g n * g n
def wP (t X i p : Nat) : Nat := if t.testBit p = true then (if i.testBit p = true then X else 10 - X) else 1
theorem prod_ext {f g : Nat → Nat} : ∀ n, (∀ p, p < n → f p = g p) → prodN f n = prodN g n
  | 0, _ => rfl
  | n + 1, h => by rw [prodN, prodN, prod_ext n (fun p hp => h p (by omega)), h n (by omega)]
theorem prod_pow {t X i : Nat} (hs : SubN i t) : ∀ k, cntK i k ≤ cntK t k ∧ prodN (wP t X i) k = X ^ cntK i k * (10 - X) ^ (cntK t k - cntK i k)
  | 0 => ⟨Nat.le_refl _, rfl⟩
  | k + 1 => by
    obtain ⟨q1, q2⟩ := prod_pow hs k
    have e1 : cntK i (k + 1) = cntK i k + (if i.testBit k = true then 1 else 0) := rfl
    have e2 : cntK t (k + 1) = cntK t k + (if t.testBit k = true then 1 else 0) := rfl
    have e3 : prodN (wP t X i) (k + 1) = prodN (wP t X i) k * wP t X i k := rfl
    rw [e1, e2, e3, q2]
    unfold wP
    by_cases ht : t.testBit k = true
    · by_cases hi : i.testBit k = true
      · rw [if_pos hi, if_pos ht, if_pos ht, if_pos hi]
        refine ⟨by omega, ?_⟩
        rw [show cntK t k + 1 - (cntK i k + 1) = cntK t k - cntK i k by omega, Nat.pow_succ, Nat.mul_right_comm]
      · rw [if_neg hi, if_pos ht, if_pos ht, if_neg hi]
        refine ⟨by omega, ?_⟩
        rw [show cntK t k + 1 - (cntK i k + 0) = cntK t k - cntK i k + 1 by omega, Nat.pow_succ, Nat.add_zero, Nat.mul_assoc]
    · have hi : ¬ i.testBit k = true := fun z => ht (hs k z)
      rw [if_neg hi, if_neg ht, if_neg ht]
      refine ⟨by omega, ?_⟩
      rw [Nat.add_zero, Nat.add_zero, Nat.mul_one]
theorem sumN_split {f : Nat → Nat} {m : Nat} : ∀ n, sumN f (m + n) = sumN f m + sumN (fun j => f (m + j)) n
  | 0 => rfl
  | n + 1 => by
    rw [show m + (n + 1) = (m + n) + 1 from rfl, sumN_s, sumN_s, sumN_split n]
    omega
theorem sumN_mul {f : Nat → Nat} {c : Nat} : ∀ n, sumN (fun j => f j * c) n = sumN f n * c
  | 0 => (Nat.zero_mul c).symm
  | n + 1 => by rw [sumN_s, sumN_s, sumN_mul n, Nat.add_mul]
/-- all sets of those there, with their chances -/
def tmP (t X k i : Nat) : Nat := if rX9_within (nI i) (nI t) = true then prodN (wP t X i) k else 0
theorem all_pow {t X : Nat} (hX : X ≤ 10) : ∀ k, k ≤ 9 → sumN (tmP t X k) (2 ^ k) = 10 ^ cntK t k
  | 0, _ => by
    have e : rX9_within (nI 0) (nI t) = true := (within_iff (by decide)).mpr (fun p hp => by rw [Nat.zero_testBit] at hp; cases hp)
    show 0 + tmP t X 0 0 = 10 ^ 0
    unfold tmP
    rw [if_pos e]
    rfl
  | k + 1, hk => by
    have ih := all_pow (t := t) hX k (by omega)
    have hp : 2 ^ (k + 1) = 2 ^ k + 2 ^ k := by rw [Nat.pow_succ]; omega
    have h9 : 2 ^ (k + 1) ≤ 512 := Nat.pow_le_pow_right (n := 2) (by decide) hk
    have e2 : cntK t (k + 1) = cntK t k + (if t.testBit k = true then 1 else 0) := rfl
    rw [hp, sumN_split]
    have lo : ∀ j, j < 2 ^ k → tmP t X (k + 1) j = tmP t X k j * (if t.testBit k = true then 10 - X else 1) := by
      intro j hj
      have hb : j.testBit k = false := Nat.testBit_lt_two_pow hj
      have e3 : prodN (wP t X j) (k + 1) = prodN (wP t X j) k * wP t X j k := rfl
      unfold tmP
      rw [e3]
      unfold wP
      rw [hb]
      split
      · simp
      · simp
    have hi : ∀ j, j < 2 ^ k → tmP t X (k + 1) (2 ^ k + j) = tmP t X k j * (if t.testBit k = true then X else 0) := by
      intro j hj
      have b1 : (2 ^ k + j).testBit k = true := by rw [Nat.testBit_two_pow_add_eq, Nat.testBit_lt_two_pow hj]; rfl
      have b2 : ∀ p, p < k → (2 ^ k + j).testBit p = j.testBit p := fun p hp => Nat.testBit_two_pow_add_gt hp j
      have b3 : ∀ p, k < p → (2 ^ k + j).testBit p = false := fun p hp => tb_hi (n := k + 1) (by omega) hp
      have e3 : prodN (wP t X (2 ^ k + j)) (k + 1) = prodN (wP t X j) k * wP t X (2 ^ k + j) k := by
        show prodN (wP t X (2 ^ k + j)) k * wP t X (2 ^ k + j) k = _
        have e9 : prodN (wP t X (2 ^ k + j)) k = prodN (wP t X j) k := prod_ext k (fun p hp => by unfold wP; rw [b2 p hp])
        rw [e9]
      have w1 : wP t X (2 ^ k + j) k = if t.testBit k = true then X else 1 := by
        unfold wP
        rw [b1]
        rfl
      have ww : rX9_within (nI (2 ^ k + j)) (nI t) = true ↔ rX9_within (nI j) (nI t) = true ∧ t.testBit k = true := by
        rw [within_iff (by omega), within_iff (by omega)]
        constructor
        · intro z
          refine ⟨fun p hp => ?_, z k b1⟩
          have pk : p < k := by
            refine Nat.lt_of_not_le (fun q => ?_)
            rw [tb_hi hj q] at hp
            cases hp
          exact z p ((b2 p pk).trans hp)
        · rintro ⟨z1, z2⟩ p hp
          rcases Nat.lt_trichotomy p k with q | q | q
          · exact z1 p ((b2 p q).symm.trans hp)
          · rw [q]; exact z2
          · rw [b3 p q] at hp
            cases hp
      unfold tmP
      rw [e3, w1]
      by_cases ht : t.testBit k = true
      · rw [if_pos ht, if_pos ht]
        by_cases hw : rX9_within (nI j) (nI t) = true
        · rw [if_pos (ww.mpr ⟨hw, ht⟩), if_pos hw]
        · rw [if_neg (fun z => hw (ww.mp z).1), if_neg hw, Nat.zero_mul]
      · rw [if_neg (fun z => ht (ww.mp z).2), if_neg ht, Nat.mul_zero]
    rw [sumN_ext (2 ^ k) lo, sumN_mul, sumN_ext (f := fun j => tmP t X (k + 1) (2 ^ k + j)) (2 ^ k) hi, sumN_mul, ih, e2]
    by_cases ht : t.testBit k = true
    · rw [if_pos ht, if_pos ht, if_pos ht, ← Nat.mul_add, Nat.pow_succ, show 10 - X + X = 10 by omega]
    · rw [if_neg ht, if_neg ht, if_neg ht, Nat.mul_zero, Nat.mul_one, Nat.add_zero, Nat.add_zero]
theorem sumN_mono {f : Nat → Nat} {m n : Nat} (h : m ≤ n) : sumN f m ≤ sumN f n := by
  obtain ⟨d, rfl⟩ := Nat.exists_eq_add_of_le h
  rw [sumN_split]
  exact Nat.le_add_right _ _
/-- powers -/
theorem power_eq {X : Nat} (hX : X ≤ 10) : ∀ n, rX0_power (nI X) n = lN (X ^ n) := by
  intro n
  unfold rX0_power
  refine gLp_inv (n := n) (fun k a => a = lN (X ^ k)) ?_ n 0 1 (by omega) rfl
  rintro i a _ rfl
  unfold fX0_power_5
  dsimp only
  rw [nI_l (by omega), lN_mul, Nat.pow_succ]
theorem ten_eq : ∀ n, gLp fX10_stays_35 n 0 1 = nI (10 ^ n) := by
  intro n
  refine gLp_inv (n := n) (fun k a => a = nI (10 ^ k)) ?_ n 0 1 (by omega) rfl
  rintro i a _ rfl
  unfold fX10_stays_35
  dsimp only
  rw [show (10 : Int32) = nI 10 from rfl, pk_mul, Nat.pow_succ]
/-- the greatest common part -/
theorem euc_ref : ∀ (d i a b : Nat), b < d → a < 2 ^ 31 → b < 2 ^ 31 → (gWh fX10_stays_239 d i (nI a, nI b)).1 = nI (Nat.gcd a b) := by
  intro d
  induction d with
  | zero => intro i a b h; omega
  | succ d ih =>
    intro i a b hd ha hb
    by_cases h0 : b = 0
    · subst h0
      rw [gWh_t (b := (nI a, nI 0)) (by
        unfold fX10_stays_239
        dsimp only
        rw [if_pos (by decide)]), Nat.gcd_zero_right]
    · have hm : a % b < b := Nat.mod_lt _ (by omega)
      rw [gWh_f (b := (nI b, nI (a % b))) (by
        unfold fX10_stays_239
        dsimp only
        rw [if_neg (nI_nle (by omega) hb), pk_rem ha (by omega) hb]), ih (i + 1) b (a % b) (by omega) hb (by omega), Nat.gcd_comm a b, Nat.gcd_rec b a, Nat.gcd_comm]
theorem l_le0 {b : Nat} (hb : b < 2 ^ 31) : lg_cmp (lN b) 0 ≤ 0 ↔ b = 0 := by
  rw [lg_cmp_le, show (0 : Int64) = lN 0 from rfl, lN_le hb (by decide)]
  omega
theorem euc_cls : ∀ (k d i a b : Nat), b < 2 ^ k → 2 * k + 1 ≤ d → a < 2 ^ 31 → b < 2 ^ 31 → (gWh fX0_commonDivisor_9 d i (lN a, lN b)).1 = lN (Nat.gcd a b) := by
  intro k
  induction k with
  | zero =>
    intro i d j b h0 h1 h2 h3
    have e : b = 0 := by
      have : b < 1 := h0
      omega
    subst e
    obtain ⟨d', rfl⟩ : ∃ d', i = d' + 1 := ⟨i - 1, by omega⟩
    rw [gWh_t (b := (lN j, lN 0)) (by
      unfold fX0_commonDivisor_9
      dsimp only
      rw [if_pos ((l_le0 (by decide)).mpr rfl)]), Nat.gcd_zero_right]
  | succ k ih =>
    intro d i a b h0 h1 ha hb
    obtain ⟨d1, rfl⟩ : ∃ d1, d = d1 + 1 + 1 := ⟨d - 2, by omega⟩
    by_cases z0 : b = 0
    · subst z0
      rw [gWh_t (b := (lN a, lN 0)) (by
        unfold fX0_commonDivisor_9
        dsimp only
        rw [if_pos ((l_le0 (by decide)).mpr rfl)]), Nat.gcd_zero_right]
    · have hm : a % b < b := Nat.mod_lt _ (by omega)
      rw [gWh_f (b := (lN b, lN (a % b))) (by
        unfold fX0_commonDivisor_9
        dsimp only
        rw [if_neg (fun z => z0 ((l_le0 hb).mp z)), pk_lRem (by omega) (by omega) (by omega)])]
      have g1 : Nat.gcd a b = Nat.gcd b (a % b) := by rw [Nat.gcd_comm a b, Nat.gcd_rec b a, Nat.gcd_comm]
      rw [g1]
      generalize a % b = r at hm ⊢
      by_cases z1 : r = 0
      · subst z1
        rw [gWh_t (b := (lN b, lN 0)) (by
          unfold fX0_commonDivisor_9
          dsimp only
          rw [if_pos ((l_le0 (by decide)).mpr rfl)]), Nat.gcd_zero_right]
      · have hm2 : b % r < r := Nat.mod_lt _ (by omega)
        have hm3 : b % r + r ≤ b := by
          have q1 := Nat.div_add_mod b r
          have q2 : 1 ≤ b / r := Nat.div_pos (by omega) (by omega)
          have q3 : r * 1 ≤ r * (b / r) := Nat.mul_le_mul (Nat.le_refl _) q2
          omega
        rw [Nat.pow_succ] at h0
        rw [gWh_f (b := (lN r, lN (b % r))) (by
          unfold fX0_commonDivisor_9
          dsimp only
          rw [if_neg (fun z => z1 ((l_le0 (by omega)).mp z)), pk_lRem (by omega) (by omega) (by omega)]), ih d1 (i + 1 + 1) r (b % r) (by omega) (by omega) (by omega) (by omega), Nat.gcd_comm b r, Nat.gcd_rec r b, Nat.gcd_comm]
section Stays
variable {sz : Nat} {K A C G : Nat → Nat} {W B R : Nat} {Z T : Nat → Nat} {mi : Nat} {told s : Int32 → Int32} {ki ag co pa me nt : Int32 → Int32} {sd bo cr de : Nat} {wa be pr : Int32} {cs : Int32 → Int32}
/-- the reference's inner loop -/
theorem stay_in (h : Al sz K A C G W B R Z T mi told s ki ag co pa me nt sd bo cr de wa be pr) {X t i : Nat} (hX : X ≤ 10) (ht : t < 512) (hi : i < 512) {parts : Int32 → Int32} (hp : ∀ p, p < sz → i.testBit p = true → parts (nI (andN i (2 ^ p))) = 0 ∨ parts (nI (andN i (2 ^ p))) = 1) {c : Int32} (hc : c = 0 ∨ c = 1) :
    ∃ e : Int32, gLp (fX10_stays_112 parts (nI X) t i) sz 0 (1, c) = (nI (prodN (wP t X i) sz), e) ∧ (e = 0 ∨ e = 1) ∧ (e = 1 ↔ c = 1 ∨ ∃ p, p < sz ∧ i.testBit p = true ∧ parts (nI (andN i (2 ^ p))) = 1) := by
  have hs := h.1.2.1
  refine gLp_inv (n := sz) (fun k r => ∃ e : Int32, r = (nI (prodN (wP t X i) k), e) ∧ (e = 0 ∨ e = 1) ∧ (e = 1 ↔ c = 1 ∨ ∃ p, p < k ∧ i.testBit p = true ∧ parts (nI (andN i (2 ^ p))) = 1)) ?_ sz 0 (1, c) (by omega) ⟨c, rfl, hc, fun z => Or.inl z, fun z => ?_⟩
  · rintro k r hk ⟨e, rfl, e1, e2⟩
    have e3 : prodN (wP t X i) (k + 1) = prodN (wP t X i) k * wP t X i k := rfl
    have e10 : (10 : Int32) - nI X = nI (10 - X) := pk_sub (a := 10) hX
    have m1 : ∀ x : Nat, nI x * 1 = nI (x * 1) := fun x => pk_mul x 1
    have o0 : ∀ x : Int32, x ||| 0 = x := fun x => Int32.or_zero
    have e9 : (i ^^^ (i &&& (2 ^ k))) = andN i (2 ^ k) := rfl
    unfold fX10_stays_112
    dsimp only
    rw [e3, e10, e9, o0, m1, pk_mul, pk_mul]
    unfold wP
    by_cases b1 : i.testBit k = true
    · rw [if_pos (Eq.mpr (z_bit1 (by omega) (by omega)) b1)]
      have hor : ∃ e' : Int32, e ||| parts (nI (andN i (2 ^ k))) = e' ∧ (e' = 0 ∨ e' = 1) ∧ (e' = 1 ↔ e = 1 ∨ parts (nI (andN i (2 ^ k))) = 1) := by
        refine ⟨_, rfl, ?_, ?_⟩
        · rcases e1 with q | q <;> rcases hp k hk b1 with q2 | q2 <;> rw [q, q2] <;> decide
        · rcases e1 with q | q <;> rcases hp k hk b1 with q2 | q2 <;> rw [q, q2] <;> decide
      obtain ⟨e', k1, k2, k3⟩ := hor
      rw [k1]
      have fin : e' = 1 ↔ c = 1 ∨ ∃ p, p < k + 1 ∧ i.testBit p = true ∧ parts (nI (andN i (2 ^ p))) = 1 := by
        rw [k3, e2]
        constructor
        · rintro ((z | ⟨p, z1, z2⟩) | z)
          · exact Or.inl z
          · exact Or.inr ⟨p, by omega, z2⟩
          · exact Or.inr ⟨k, by omega, b1, z⟩
        · rintro (z | ⟨p, z1, z2⟩)
          · exact Or.inl (Or.inl z)
          · by_cases q : p = k
            · rw [q] at z2; exact Or.inr z2.2
            · exact Or.inl (Or.inr ⟨p, by omega, z2⟩)
      by_cases b2 : t.testBit k = true
      · rw [if_neg (fun z => by have q : t.testBit k = false := Eq.mp (z_bit0 (by omega) (by omega)) z; rw [b2] at q; cases q), if_pos b2, if_pos b1]
        exact ⟨e', rfl, k2, fin⟩
      · have b3 : t.testBit k = false := by cases q : t.testBit k <;> simp_all
        rw [if_pos (Eq.mpr (z_bit0 (by omega) (by omega)) b3), if_neg b2]
        exact ⟨e', rfl, k2, fin⟩
    · rw [if_neg (fun z => b1 (Eq.mp (z_bit1 (by omega) (by omega)) z))]
      have fin : e = 1 ↔ c = 1 ∨ ∃ p, p < k + 1 ∧ i.testBit p = true ∧ parts (nI (andN i (2 ^ p))) = 1 := by
        rw [e2]
        constructor
        · rintro (z | ⟨p, z1, z2⟩)
          · exact Or.inl z
          · exact Or.inr ⟨p, by omega, z2⟩
        · rintro (z | ⟨p, z1, z2⟩)
          · exact Or.inl z
          · by_cases q : p = k
            · rw [q] at z2; exact absurd z2.1 b1
            · exact Or.inr ⟨p, by omega, z2⟩
      by_cases b2 : t.testBit k = true
      · rw [if_neg (fun z => by have q : t.testBit k = false := Eq.mp (z_bit0 (by omega) (by omega)) z; rw [b2] at q; cases q), if_pos b2, if_neg b1]
        exact ⟨e, rfl, e1, fin⟩
      · have b3 : t.testBit k = false := by cases q : t.testBit k <;> simp_all
        rw [if_pos (Eq.mpr (z_bit0 (by omega) (by omega)) b3), if_neg b2]
        exact ⟨e, rfl, e1, fin⟩
  · rcases z with z | ⟨p, z1, _⟩
    · exact z
    · exact absurd z1 (Nat.not_lt_zero p)
/-- the class's answer on one set -/
theorem able_eq (h : Al sz K A C G W B R Z T mi told s ki ag co pa me nt sd bo cr de wa be pr) {i : Nat} (hi : i < 2 ^ sz) (hr : SubN i (remN sz cr de)) {ab : Int32 → Int32} : rX0_isAble ki ag me wa be pr nt ab i sz cr de sd = true ↔ rX10_sails told s (nI i) sz = true ∨ ∃ p, p < sz ∧ i.testBit p = true ∧ ab (nI (andN i (2 ^ p))) = 1 := by
  have hp9 := pw9 h.1.2.1
  have hs := h.1.2.1
  have k := gWh_ex (f := fX0_isAble_17 ab i) (bad := fun p => i.testBit p = true ∧ ab (nI (andN i (2 ^ p))) = 1) (i0 := 0) (n := 9) (fun j b _ _ z => by
    unfold fX0_isAble_17
    dsimp only
    rw [if_pos z.1, if_pos z.2]) (fun j b _ _ z => by
    unfold fX0_isAble_17
    dsimp only
    by_cases z1 : i.testBit j = true
    · rw [if_pos z1, if_neg (fun z2 => z ⟨z1, z2⟩)]
    · rw [if_neg z1]) 9 0 (Nat.le_refl _) rfl
  have k2 : gWh (fX0_isAble_17 ab i) 9 0 false = true ↔ ∃ p, p < sz ∧ i.testBit p = true ∧ ab (nI (andN i (2 ^ p))) = 1 := by
    rw [k]
    constructor
    · rintro ⟨p, _, _, z1, z2⟩
      refine ⟨p, Nat.lt_of_not_le (fun q => ?_), z1, z2⟩
      rw [tb_hi hi q] at z1
      cases z1
    · rintro ⟨p, z0, z1, z2⟩
      exact ⟨p, Nat.zero_le _, by omega, z1, z2⟩
  unfold rX0_isAble
  rw [cost_eq h.1 h.2.1 h.2.2.1 h.2.2.2.1 h.2.2.2.2 hr]
  by_cases g : rX10_sails told s (nI i) sz = true
  · obtain ⟨cc, c1, c2⟩ := al_coins h (i := i) (by omega) g
    rw [if_pos g, c2, if_neg (nI_ne4 (by omega))]
    exact ⟨fun _ => Or.inl g, fun _ => rfl⟩
  · rw [if_neg g, if_pos rfl]
    by_cases q : gWh (fX0_isAble_17 ab i) 9 0 false = true
    · rw [if_pos q]
      exact ⟨fun _ => Or.inr (k2.mp q), fun _ => rfl⟩
    · rw [if_neg q]
      refine ⟨fun z => (by cases z), fun z => ?_⟩
      rcases z with z | z
      · exact absurd z g
      · exact absurd (k2.mpr z) q
def StJ (t X k d : Nat) (r : (Int32 → Int32) × Int32) (c : Int64 × (Int32 → Int32)) : Prop :=
  (∀ j, j < d → r.1 (nI j) = c.2 (nI j) ∧ (c.2 (nI j) = 0 ∨ c.2 (nI j) = 1)) ∧ ∃ S, r.2 = nI S ∧ c.1 = lN S ∧ S ≤ sumN (tmP t X k) d
theorem stay_step (h : Al sz K A C G W B R Z T mi told s ki ag co pa me nt sd bo cr de wa be pr) {X i : Nat} (hX : X ≤ 10) (hi : i < 2 ^ sz) {r : (Int32 → Int32) × Int32} {c : Int64 × (Int32 → Int32)} (J : StJ (presN co (nI mi) sz cr de) X sz i r c) : StJ (presN co (nI mi) sz cr de) X sz (i + 1) (fX10_stays_60 told s (nI X) (presN co (nI mi) sz cr de) sz i r) (fX0_reckon_19 ki ag me wa be pr nt (nI X) (presN co (nI mi) sz cr de) (tOnes (presN co (nI mi) sz cr de)) sz cr de sd i c) := by
  have hp9 := pw9 h.1.2.1
  have hP := al_P h
  obtain ⟨parts, r0⟩ := r
  obtain ⟨c0, ab⟩ := c
  obtain ⟨j1, S, j2, j3, j4⟩ := J
  dsimp only at j1 j2 j3
  subst j2
  subst j3
  have up : ∀ (x y : Int32), x = y → (y = 0 ∨ y = 1) → ∀ j, j < i + 1 → gup parts (nI i) x (nI j) = gup ab (nI i) y (nI j) ∧ (gup ab (nI i) y (nI j) = 0 ∨ gup ab (nI i) y (nI j) = 1) := by
    intro x y hxy hy j hj
    by_cases e : j = i
    · rw [e, gup_s, gup_s]
      exact ⟨hxy, hy⟩
    · rw [gup_ne (by omega) (by omega) (by omega), gup_ne (by omega) (by omega) (by omega)]
      exact j1 j (by omega)
  have es : sumN (tmP (presN co (nI mi) sz cr de) X sz) (i + 1) = sumN (tmP (presN co (nI mi) sz cr de) X sz) i + tmP (presN co (nI mi) sz cr de) X sz i := rfl
  unfold fX10_stays_60 fX0_reckon_19
  dsimp only
  by_cases w : rX9_within (nI i) (nI (presN co (nI mi) sz cr de)) = true
  · have hsub : SubN i (presN co (nI mi) sz cr de) := (within_iff (by omega)).mp w
    have hr : SubN i (remN sz cr de) := fun p hp => pres_rem (hsub p hp)
    have et : tmP (presN co (nI mi) sz cr de) X sz i = prodN (wP (presN co (nI mi) sz cr de) X i) sz := if_pos w
    have pp := prod_pow (X := X) hsub sz
    have o1 : tOnes i = cntK i sz := ones_sum hi h.1.2.1
    have o2 : tOnes (presN co (nI mi) sz cr de) = cntK (presN co (nI mi) sz cr de) sz := ones_sum (pres_lt h.2.2.2.2) h.1.2.1
    have hpw : rX0_power (nI X) (tOnes i) * rX0_power (10 - nI X) (tOnes (presN co (nI mi) sz cr de) - tOnes i) = lN (prodN (wP (presN co (nI mi) sz cr de) X i) sz) := by
      rw [show (10 : Int32) - nI X = nI (10 - X) from pk_sub (a := 10) hX, power_eq hX, power_eq (by omega), lN_mul, pp.2, o1, o2]
    have hbelow : ∀ p, p < sz → i.testBit p = true → andN i (2 ^ p) < i := fun p hp hb => andN_lt (fun q hq => by
      rw [Nat.testBit_two_pow] at hq
      rw [← of_decide_eq_true hq]; exact hb) (by have := Nat.two_pow_pos p; omega)
    have hpp : ∀ p, p < sz → i.testBit p = true → gup parts (nI i) 0 (nI (andN i (2 ^ p))) = ab (nI (andN i (2 ^ p))) := fun p hp hb => by
      have := hbelow p hp hb
      rw [gup_ne (by omega) (by omega) (by omega)]
      exact (j1 _ this).1
    have hab : ∀ p, p < sz → i.testBit p = true → gup parts (nI i) 0 (nI (andN i (2 ^ p))) = 0 ∨ gup parts (nI i) 0 (nI (andN i (2 ^ p))) = 1 := fun p hp hb => by
      rw [hpp p hp hb]
      exact (j1 _ (hbelow p hp hb)).2
    have hex : (∃ p, p < sz ∧ i.testBit p = true ∧ gup parts (nI i) 0 (nI (andN i (2 ^ p))) = 1) ↔ ∃ p, p < sz ∧ i.testBit p = true ∧ ab (nI (andN i (2 ^ p))) = 1 := by
      constructor
      · rintro ⟨p, z1, z2, z3⟩
        exact ⟨p, z1, z2, by rw [← hpp p z1 z2]; exact z3⟩
      · rintro ⟨p, z1, z2, z3⟩
        exact ⟨p, z1, z2, by rw [hpp p z1 z2]; exact z3⟩
    have main : ∀ cc : Int32, (cc = 0 ∨ cc = 1) → (cc = 1 ↔ rX10_sails told s (nI i) sz = true) → StJ (presN co (nI mi) sz cr de) X sz (i + 1) (gup (gup parts (nI i) 0) (nI i) (gLp (fX10_stays_112 (gup parts (nI i) 0) (nI X) (presN co (nI mi) sz cr de) i) sz 0 (1, cc)).2, nI S + (gLp (fX10_stays_112 (gup parts (nI i) 0) (nI X) (presN co (nI mi) sz cr de) i) sz 0 (1, cc)).2 * (gLp (fX10_stays_112 (gup parts (nI i) 0) (nI X) (presN co (nI mi) sz cr de) i) sz 0 (1, cc)).1) (if rX0_isAble ki ag me wa be pr nt ab i sz cr de sd = true then (lN S + rX0_power (nI X) (tOnes i) * rX0_power (10 - nI X) (tOnes (presN co (nI mi) sz cr de) - tOnes i), gup ab (nI i) 1) else (lN S, gup ab (nI i) 0)) := by
      intro cc hcc hcs
      obtain ⟨e, e1, e2, e3⟩ := stay_in h (t := (presN co (nI mi) sz cr de)) (i := i) hX hP (by omega) hab hcc
      have hable := able_eq h hi hr (ab := ab)
      rw [e1]
      dsimp only
      rw [gup_gup]
      have hiff : e = 1 ↔ rX0_isAble ki ag me wa be pr nt ab i sz cr de sd = true := by
        rw [e3, hable, hcs, hex]
      by_cases q : rX0_isAble ki ag me wa be pr nt ab i sz cr de sd = true
      · have e9 := hiff.mpr q
        subst e9
        rw [if_pos q, hpw, lN_add, show (1 : Int32) = nI 1 from rfl, pk_mul, nI_add, Nat.one_mul]
        exact ⟨up _ _ rfl (Or.inr rfl), _, rfl, rfl, by rw [es, et]; omega⟩
      · have e9 : e = 0 := by
          rcases e2 with z | z
          · exact z
          · exact absurd (hiff.mp z) q
        subst e9
        rw [if_neg q, show (0 : Int32) = nI 0 from rfl, pk_mul, nI_add, Nat.zero_mul, Nat.add_zero]
        exact ⟨up _ _ rfl (Or.inl rfl), _, rfl, rfl, by rw [es]; omega⟩
    rw [if_pos (wi_iff.mp w), if_pos w]
    by_cases g : rX10_sails told s (nI i) sz = true
    · rw [if_pos g]
      exact main 1 (Or.inr rfl) ⟨fun _ => g, fun _ => rfl⟩
    · rw [if_neg g]
      exact main 0 (Or.inl rfl) ⟨fun z => absurd z (by decide), fun z => absurd z g⟩
  · rw [if_neg (fun z => w (wi_iff.mpr z)), if_neg w]
    exact ⟨up _ _ rfl (Or.inl rfl), S, rfl, rfl, by rw [es]; omega⟩
theorem stay_lp (h : Al sz K A C G W B R Z T mi told s ki ag co pa me nt sd bo cr de wa be pr) {X : Nat} (hX : X ≤ 10) (parts ab : Int32 → Int32) : ∀ d, d ≤ 2 ^ sz → StJ (presN co (nI mi) sz cr de) X sz d (gLp (fX10_stays_60 told s (nI X) (presN co (nI mi) sz cr de) sz) d 0 (parts, 0)) (gLp (fX0_reckon_19 ki ag me wa be pr nt (nI X) (presN co (nI mi) sz cr de) (tOnes (presN co (nI mi) sz cr de)) sz cr de sd) d 0 (0, ab))
  | 0, _ => ⟨fun j hj => absurd hj (Nat.not_lt_zero j), 0, rfl, rfl, Nat.le_refl _⟩
  | d + 1, hd => by
    rw [gLp_succ, gLp_succ, Nat.zero_add]
    exact stay_step h hX (by omega) (stay_lp h hX parts ab d (by omega))
theorem stay_more (h : Al sz K A C G W B R Z T mi told s ki ag co pa me nt sd bo cr de wa be pr) {tx : Int32} {mm : Nat} : ∀ (d i : Nat) (c : Int64 × (Int32 → Int32)), 2 ^ sz ≤ i → i + d = 512 → (gLp (fX0_reckon_19 ki ag me wa be pr nt tx (presN co (nI mi) sz cr de) mm sz cr de sd) d i c).1 = c.1 := by
  intro d
  induction d with
  | zero => intro i c _ _; rfl
  | succ d ih =>
    intro i c h1 h2
    obtain ⟨c0, ab⟩ := c
    have hl := pres_lt (co := co) (mi := mi) h.2.2.2.2
    have w : ¬ rX9_within (nI i) (nI (presN co (nI mi) sz cr de)) = true := fun z => by
      have := sub_le ((within_iff (by omega)).mp z)
      omega
    rw [gLp, ih (i + 1) _ (by omega) (by omega)]
    unfold fX0_reckon_19
    dsimp only
    rw [if_neg w]
theorem eq_stays (h : Al sz K A C G W B R Z T mi told s ki ag co pa me nt sd bo cr de wa be pr) (parts ab : Int32 → Int32) (cu cd x pt : Int32) : (rX10_stays told s parts x pt sz).1 = (rX9_stays ki ag co me wa be pr nt (nI mi) ab cu cd x pt sz cr de sd).1 := by
  have hp9 := pw9 h.1.2.1
  unfold rX10_stays rX9_stays
  by_cases w1 : x < 0
  · rw [if_pos w1, if_neg (fun z => (in01.mp z).1 w1)]
  · rw [if_neg w1]
    by_cases w2 : 10 < x
    · rw [if_pos w2, if_neg (fun z => (in01.mp z).2 w2)]
    · rw [if_neg w2, if_pos (in01.mpr ⟨w1, w2⟩)]
      by_cases w3 : pt < 0
      · rw [if_pos w3, if_neg (fun z => (in01.mp z).1 w3)]
      · rw [if_neg w3]
        by_cases w4 : pt ≤ 1
        · rw [if_pos w4, if_pos (in01.mpr ⟨w3, fun z => absurd w4 (Int32.not_le.mpr z)⟩)]
          obtain ⟨X, x1, rfl⟩ := nI_of w1
          have hX : X ≤ 10 := Nat.le_of_not_lt (fun z => w2 (nI_lt (a := 10) z x1))
          obtain ⟨_, S, s1, s2, s3⟩ := stay_lp h hX parts ab (2 ^ sz) (Nat.le_refl _)
          have more := stay_more h (tx := nI X) (mm := tOnes (presN co (nI mi) sz cr de)) (512 - 2 ^ sz) (2 ^ sz) (gLp (fX0_reckon_19 ki ag me wa be pr nt (nI X) (presN co (nI mi) sz cr de) (tOnes (presN co (nI mi) sz cr de)) sz cr de sd) (2 ^ sz) 0 (0, ab)) (Nat.le_refl _) (by omega)
          have e512 : gLp (fX0_reckon_19 ki ag me wa be pr nt (nI X) (presN co (nI mi) sz cr de) (tOnes (presN co (nI mi) sz cr de)) sz cr de sd) 512 0 (0, ab) = gLp (fX0_reckon_19 ki ag me wa be pr nt (nI X) (presN co (nI mi) sz cr de) (tOnes (presN co (nI mi) sz cr de)) sz cr de sd) (512 - 2 ^ sz) (2 ^ sz) (gLp (fX0_reckon_19 ki ag me wa be pr nt (nI X) (presN co (nI mi) sz cr de) (tOnes (presN co (nI mi) sz cr de)) sz cr de sd) (2 ^ sz) 0 (0, ab)) := by
            rw [show (512 : Nat) = 2 ^ sz + (512 - 2 ^ sz) by omega, gLp_add, Nat.zero_add, show 2 ^ sz + (512 - 2 ^ sz) - 2 ^ sz = 512 - 2 ^ sz by omega]
          rw [← e512, s2] at more
          have o9 := (tOnes_all (presN co (nI mi) sz cr de) (al_P h)).2
          have o2 : tOnes (presN co (nI mi) sz cr de) = cntK (presN co (nI mi) sz cr de) sz := ones_sum (pres_lt h.2.2.2.2) h.1.2.1
          have tot := all_pow (t := (presN co (nI mi) sz cr de)) hX sz h.1.2.1
          rw [← o2] at tot
          have t9 : 10 ^ tOnes (presN co (nI mi) sz cr de) ≤ 10 ^ 9 := Nat.pow_le_pow_right (by decide) o9
          have t0 : 0 < 10 ^ tOnes (presN co (nI mi) sz cr de) := Nat.pow_pos (by decide)
          have hS : S ≤ 10 ^ tOnes (presN co (nI mi) sz cr de) := by rw [← tot]; exact s3
          unfold rX0_reckon rX0_reduce rX0_commonDivisor
          rw [al_t h, more, s1, ten_eq, show (10 : Int32) = nI 10 from rfl, power_eq (Nat.le_refl 10)]
          generalize 10 ^ tOnes (presN co (nI mi) sz cr de) = Q at t9 t0 hS
          have hg0 : 0 < Nat.gcd S Q := Nat.gcd_pos_of_pos_right S t0
          have hg1 : Nat.gcd S Q ≤ Q := Nat.gcd_le_right S t0
          have b9 : 10 ^ 9 = 1000000000 := rfl
          rw [b9] at t9
          rw [nI_clamp (by omega), euc_ref (Q + 1) 0 S Q (by omega) (by omega) (by omega), euc_cls 30 100 0 S Q (by omega) (by omega) (by omega) (by omega)]
          generalize Nat.gcd S Q = g at hg0 hg1
          have hgz : ¬ lg_cmp (lN g) 0 ≤ 0 := fun z => by
            have := (l_le0 (by omega)).mp z
            omega
          dsimp only
          rw [if_neg hgz, pk_div (by omega) hg0 (by omega), pk_div (by omega) hg0 (by omega), pk_lDiv (by omega) hg0 (by omega), pk_lDiv (by omega) hg0 (by omega), lN_i, lN_i]
          by_cases w5 : pt = 0
          · rw [if_pos w5, if_pos w5]
          · rw [if_neg w5, if_neg w5]
        · rw [if_neg w4, if_neg (fun z => w4 (i_nlt.mp (in01.mp z).2))]
end Stays
