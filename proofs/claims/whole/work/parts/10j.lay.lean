/-! the reference: the whole text -/
theorem readsItem_at {text draft : Int32 → Int32} {letter : Int32} {ty ax dz : Nat} : ax ≤ (rX10_readsItem text draft letter ty ax dz).2.2 ∧ (rX10_readsItem text draft letter ty ax dz).2.2 ≤ ax + 12 := by
  have g : ∀ l h e a, a ≤ (rX10_number text l h e ty a).2 ∧ (rX10_number text l h e ty a).2 ≤ a + 3 := fun l h e a => ⟨number_ge, number_le⟩
  unfold rX10_readsItem
  have h1 := g 1 99 44 ax
  generalize rX10_number text 1 99 44 ty ax = N1 at h1 ⊢
  have h2 := g 0 99 44 N1.2
  generalize rX10_number text 0 99 44 ty N1.2 = N2 at h2 ⊢
  have h3 := g 0 9 59 N2.2
  generalize rX10_number text 0 9 59 ty N2.2 = N3 at h3 ⊢
  have h4 := g 0 3 44 ax
  generalize rX10_number text 0 3 44 ty ax = N4 at h4 ⊢
  have h5 := g 0 99 44 N4.2
  generalize rX10_number text 0 99 44 ty N4.2 = N5 at h5 ⊢
  have h6 := g 0 99 44 N5.2
  generalize rX10_number text 0 99 44 ty N5.2 = N6 at h6 ⊢
  have h7 := g 0 5 59 N6.2
  generalize rX10_number text 0 5 59 ty N6.2 = N7 at h7 ⊢
  repeat (split <;> try (simp only []; omega))
theorem gup_n {f : Int32 → Int32} {a b : Nat} {x : Int32} (h : a ≠ b) (ha : a < 2 ^ 31) (hb : b < 2 ^ 31) : gup f (nI a) x (nI b) = f (nI b) := if_neg (fun z => h ((nI_eq hb ha).mp z).symm)
theorem gup_n0 {f : Int32 → Int32} {a : Nat} {x : Int32} (h : 0 < a) (ha : a < 2 ^ 31) : gup f (nI a) x 0 = f 0 := gup_n (b := 0) (by omega) ha (by decide)
theorem personOf_0 {draft : Int32 → Int32} {k a c p : Int32} {dz : Nat} (hdz : draft 0 = nI dz) (hd : dz ≤ 9) : rX10_personOf draft k a c p dz 0 = nI (dz + 1) := by
  unfold rX10_personOf
  rw [gup_s, gup_n0 (by omega) (by omega), gup_n0 (by omega) (by omega), gup_n0 (by omega) (by omega), gup_n0 (by omega) (by omega), hdz]
  exact nI_1 dz
theorem readsItem_dz {text draft : Int32 → Int32} {letter : Int32} {ty ax dz : Nat} (hdz : draft 0 = nI dz) (hd : dz ≤ 9) : ∃ dy, dy ≤ 9 ∧ (rX10_readsItem text draft letter ty ax dz).2.1 0 = nI dy := by
  have g : ∀ x z u, gup (gup (gup draft 1 x) 2 z) 3 u 0 = nI dz := fun x z u => by
    have e : gup (gup (gup draft (nI 1) x) (nI 2) z) (nI 3) u 0 = nI dz := by rw [gup_n0 (by omega) (by omega), gup_n0 (by omega) (by omega), gup_n0 (by omega) (by omega), hdz]
    exact e
  unfold rX10_readsItem
  generalize rX10_number text 1 99 44 ty ax = N1
  generalize rX10_number text 0 99 44 ty N1.2 = N2
  generalize rX10_number text 0 9 59 ty N2.2 = N3
  generalize rX10_number text 0 3 44 ty ax = N4
  generalize rX10_number text 0 99 44 ty N4.2 = N5
  generalize rX10_number text 0 99 44 ty N5.2 = N6
  generalize rX10_number text 0 5 59 ty N6.2 = N7
  repeat (split <;> try (first | exact ⟨dz, hd, g _ _ _⟩ | exact ⟨dz, hd, hdz⟩))
  next c => exact ⟨dz + 1, by have := dz9 hd c; omega, personOf_0 hdz hd⟩
/-- the text, item by item, from a place on -/
def rdAll (text : Int32 → Int32) (ty : Nat) : Nat → Nat → (Int32 → Int32) → Int32 × Nat × (Int32 → Int32)
  | 0, ax, dr => (-4, ax, dr)
  | d + 1, ax, dr => if ty ≤ ax then (-4, ax, dr) else if (rX10_readsItem text dr (text (nI ax)) ty (ax + 1) (dr 0).toNatClampNeg).1 = true then rdAll text ty d (rX10_readsItem text dr (text (nI ax)) ty (ax + 1) (dr 0).toNatClampNeg).2.2 (rX10_readsItem text dr (text (nI ax)) ty (ax + 1) (dr 0).toNatClampNeg).2.1 else (nI ax, (rX10_readsItem text dr (text (nI ax)) ty (ax + 1) (dr 0).toNatClampNeg).2.2, (rX10_readsItem text dr (text (nI ax)) ty (ax + 1) (dr 0).toNatClampNeg).2.1)
set_option maxRecDepth 100000 in
set_option maxHeartbeats 4000000 in
theorem LX10_readsAll_9 {w : gW} {al : Bool} {known kept noted : Int32} {text told s past images notes alone parts held : Int32 → Int32} {n : Nat} {P : gP} {ty : Nat} (hty : ty ≤ 200) : ∀ (d ax : Nat) (dr : Int32 → Int32) (dz : Nat), dr 0 = nI dz → dz ≤ 9 → ax < 480 → 201 ≤ ax + d → P (hM text (nI ty) told ((rdAll text ty d ax dr).2.2) s past known images kept notes noted (nI ((rdAll text ty d ax dr).2.1)) alone parts held) (some (.int (rdAll text ty d ax dr).1)) → G w gT0 al n mX10_readsAll 0 0 P 0 0 (hM text (nI ty) told dr s past known images kept notes noted (nI ax) alone parts held) 9 [.ref 0, gF] []
  | 0, ax, dr, dz, hdz, hdz9, hax, hm, k => by
    have hle : ty ≤ ax := by omega
    refine g_aload_n dX10_readsAll_9 rfl 10 rfl rfl ?_
    refine g_get (v := .int (nI ax)) dX10_readsAll_10 13 rfl lX10_58 rfl rfl ?_
    refine g_aload_n dX10_readsAll_13 rfl 14 rfl rfl ?_
    refine g_get (v := .int (nI ty)) dX10_readsAll_14 17 rfl lX10_54 rfl rfl ?_
    refine g_icmp_ge dX10_readsAll_17 53 rfl 20 rfl (fun _ => ?_) (fun c => absurd (nI_le hle (by omega)) c)
    refine g_bipush (-4) dX10_readsAll_53 55 rfl (by decide) ?_
    refine g_ireturn dX10_readsAll_55 rfl rfl (Nat.le_refl _) (Nat.le_refl _) ?_
    rw [rdAll] at k
    exact k
  | d + 1, ax, dr, dz, hdz, hdz9, hax, hm, k => by
    have hc : (dr 0).toNatClampNeg = dz := by rw [hdz, nI_clamp (by omega)]
    by_cases hle : ty ≤ ax
    · refine g_aload_n dX10_readsAll_9 rfl 10 rfl rfl ?_
      refine g_get (v := .int (nI ax)) dX10_readsAll_10 13 rfl lX10_58 rfl rfl ?_
      refine g_aload_n dX10_readsAll_13 rfl 14 rfl rfl ?_
      refine g_get (v := .int (nI ty)) dX10_readsAll_14 17 rfl lX10_54 rfl rfl ?_
      refine g_icmp_ge dX10_readsAll_17 53 rfl 20 rfl (fun _ => ?_) (fun c => absurd (nI_le hle (by omega)) c)
      refine g_bipush (-4) dX10_readsAll_53 55 rfl (by decide) ?_
      refine g_ireturn dX10_readsAll_55 rfl rfl (Nat.le_refl _) (Nat.le_refl _) ?_
      rw [rdAll, if_pos hle] at k
      exact k
    · refine g_aload_n dX10_readsAll_9 rfl 10 rfl rfl ?_
      refine g_get (v := .int (nI ax)) dX10_readsAll_10 13 rfl lX10_58 rfl rfl ?_
      refine g_aload_n dX10_readsAll_13 rfl 14 rfl rfl ?_
      refine g_get (v := .int (nI ty)) dX10_readsAll_14 17 rfl lX10_54 rfl rfl ?_
      refine g_icmp_ge dX10_readsAll_17 53 rfl 20 rfl (fun c => absurd c (nI_ge (by omega) (by omega))) (fun _ => ?_)
      refine g_aload_n dX10_readsAll_20 rfl 21 rfl rfl ?_
      refine g_get (v := .int (nI ax)) dX10_readsAll_21 24 rfl lX10_58 rfl rfl ?_
      refine g_istore1 dX10_readsAll_24 25 rfl (by decide) rfl ?_
      refine g_aload_n dX10_readsAll_25 rfl 26 rfl rfl ?_
      refine g_dup dX10_readsAll_26 27 rfl rfl ?_
      refine g_get (v := .int (nI ax)) dX10_readsAll_27 30 rfl lX10_58 rfl rfl ?_
      refine g_iconst 1 dX10_readsAll_30 31 rfl (by decide) ?_
      refine g_iadd' dX10_readsAll_31 32 rfl (nI (ax + 1)) (nI_add _ 1) ?_
      refine g_put dX10_readsAll_32 35 rfl lX10_58 wrX10 rfl rfl rfl rfl rfl (Nat.le_of_ble_eq_true rfl) (h' := (hM text (nI ty) told dr s past known images kept notes noted (nI (ax + 1)) alone parts held)) rfl ?_
      refine g_aload_n dX10_readsAll_35 rfl 36 rfl rfl ?_
      refine g_aload_n dX10_readsAll_36 rfl 37 rfl rfl ?_
      refine g_get (v := .ref 1) dX10_readsAll_37 40 rfl lX10_7 rfl rfl ?_
      refine g_iload_n dX10_readsAll_40 rfl 41 rfl rfl ?_
      refine g_iaload (N := 200) dX10_readsAll_41 42 rfl rfl (vp_in_nI (by omega) (by decide)) ?_
      refine g_cVv (as := [.int (text (nI ax))]) (st := []) dX10_readsAll_42 45 rfl kX10_73 ⟨Nat.le_of_ble_eq_true rfl, Nat.le_of_ble_eq_true rfl⟩ (MX10_readsItem (ty := ty) (ax := ax + 1) (text (nI ax)) (by omega) (by omega) hdz hdz9) rfl rfl rfl rfl (Nat.le_of_ble_eq_true rfl) (Nat.le_refl _) (Nat.le_refl _) ?_
      refine g_if_ne dX10_readsAll_45 50 rfl 48 rfl (fun c1 => ?_) (fun c1 => ?_)
      · replace c1 := gB_t c1
        refine g_goto dX10_readsAll_50 9 rfl ?_
        refine g_fgt (L' := [.ref 0, gF]) ⟨Or.inl rfl, Or.inr rfl, trivial⟩ ?_
        obtain ⟨dy, hdy, ey⟩ := readsItem_dz (text := text) (letter := text (nI ax)) (ty := ty) (ax := ax + 1) hdz hdz9
        have hb := readsItem_at (text := text) (draft := dr) (letter := text (nI ax)) (ty := ty) (ax := ax + 1) (dz := dz)
        rw [rdAll, if_neg hle, hc, if_pos c1] at k
        exact LX10_readsAll_9 hty d _ _ dy ey hdy (by omega) (by omega) k
      · replace c1 := gB_f c1
        refine g_iload_n dX10_readsAll_48 rfl 49 rfl rfl ?_
        refine g_ireturn dX10_readsAll_49 rfl rfl (Nat.le_refl _) (Nat.le_refl _) ?_
        rw [rdAll, if_neg hle, hc, if_neg c1] at k
        exact k
theorem begins_0 (draft : Int32 → Int32) : rX10_begins draft 0 = nI 0 := by
  unfold rX10_begins
  have e : gup (gup (gup (gLp fX10_begins_2 40 0 draft) (nI 1) 100) (nI 2) 9) (nI 3) 1 0 = (gLp fX10_begins_2 40 0 draft) 0 := by rw [gup_n0 (by omega) (by omega), gup_n0 (by omega) (by omega), gup_n0 (by omega) (by omega)]
  refine Eq.trans e ?_
  refine gLp_inv (n := 40) (fun k f => 0 < k → f 0 = nI 0) (fun i a hi h _ => ?_) 40 0 draft rfl (fun h => absurd h (by decide)) (by decide)
  rcases Nat.eq_zero_or_pos i with z | z
  · subst z; exact gup_s
  · exact (gup_n0 z (by omega)).trans (h z)
theorem MX10_readsAll {w : gW} {al : Bool} {known kept noted at_ : Int32} {text told draft s past images notes alone parts held : Int32 → Int32} {ty : Nat} (hty : ty ≤ 200) : M w gT0 al mX10_readsAll 0 0 (hM text (nI ty) told draft s past known images kept notes noted at_ alone parts held) [.ref 0] (gEq (hM text (nI ty) told ((rdAll text ty 201 0 (rX10_begins draft)).2.2) s past known images kept notes noted (nI ((rdAll text ty 201 0 (rX10_begins draft)).2.1)) alone parts held) (some (.int (rdAll text ty 201 0 (rX10_begins draft)).1))) := by
  refine M.of (L0 := [.ref 0, gF]) (by decide +kernel) (Nat.le_of_ble_eq_true rfl) rfl ?_
  refine g_aload_n dX10_readsAll_0 rfl 1 rfl rfl ?_
  refine g_cV0 (as := []) (st := []) dX10_readsAll_1 4 rfl kX10_40 ⟨Nat.le_of_ble_eq_true rfl, Nat.le_of_ble_eq_true rfl⟩ (MX10_begins) rfl rfl rfl rfl (Nat.le_of_ble_eq_true rfl) (Nat.le_refl _) (Nat.le_refl _) ?_
  refine g_aload_n dX10_readsAll_4 rfl 5 rfl rfl ?_
  refine g_iconst 0 dX10_readsAll_5 6 rfl (by decide) ?_
  refine g_put dX10_readsAll_6 9 rfl lX10_58 wrX10 rfl rfl rfl rfl rfl (Nat.le_of_ble_eq_true rfl) (h' := (hM text (nI ty) told (rX10_begins draft) s past known images kept notes noted 0 alone parts held)) rfl ?_
  exact LX10_readsAll_9 hty 201 0 _ 0 (begins_0 draft) (by omega) (by omega) (by omega) ⟨rfl, rfl⟩
/-- what the text says: the first fault, the draft -/
def rdT (text draft : Int32 → Int32) (ty : Nat) : Int32 × Nat × (Int32 → Int32) := rdAll text ty 201 0 (rX10_begins draft)
def rX10_fault (text : Int32 → Int32) (draft : Int32 → Int32) (ty : Nat) : Int32 × (Int32 → Int32) × Int32 := (((rdAll text ty 201 0 (rX10_begins draft)).1), ((rdAll text ty 201 0 (rX10_begins draft)).2.2), (nI ((rdAll text ty 201 0 (rX10_begins draft)).2.1)))
set_option maxRecDepth 100000 in
set_option maxHeartbeats 4000000 in
theorem MX10_fault {w : gW} {al : Bool} {known kept noted at_ : Int32} {text told draft s past images notes alone parts held : Int32 → Int32} {ty : Nat} (hty : ty ≤ 200)  : M w gT0 al mX10_fault 0 0 (hM text (nI ty) told draft s past known images kept notes noted at_ alone parts held) [.ref 0] (gEq (hM text (nI ty) told ((rX10_fault text draft ty).2.1) s past known images kept notes noted ((rX10_fault text draft ty).2.2) alone parts held) (some (.int ((rX10_fault text draft ty).1)))) := by
  refine M.of (L0 := [.ref 0]) (by decide +kernel) (Nat.le_of_ble_eq_true rfl) rfl ?_
  refine g_aload_n dX10_fault_0 rfl 1 rfl rfl ?_
  refine g_cVv (as := []) (st := []) dX10_fault_1 4 rfl kX10_76 ⟨Nat.le_of_ble_eq_true rfl, Nat.le_of_ble_eq_true rfl⟩ (MX10_readsAll (ty := ty) (by omega)) rfl rfl rfl rfl (Nat.le_of_ble_eq_true rfl) (Nat.le_refl _) (Nat.le_refl _) ?_
  refine g_ireturn dX10_fault_4 rfl rfl (Nat.le_refl _) (Nat.le_refl _) ?_
  have e : (rX10_fault text draft ty) = (((rdAll text ty 201 0 (rX10_begins draft)).1), ((rdAll text ty 201 0 (rX10_begins draft)).2.2), (nI ((rdAll text ty 201 0 (rX10_begins draft)).2.1))) := by rw [rX10_fault]
  rw [e]
  exact ⟨rfl, rfl⟩
def rX10_lay (text : Int32 → Int32) (told : Int32 → Int32) (draft : Int32 → Int32) (s : Int32 → Int32) (known : Int32) (kept : Int32) (noted : Int32) (ty : Nat) : Int32 × (Int32 → Int32) × (Int32 → Int32) × (Int32 → Int32) × Int32 × Int32 × Int32 × Int32 := (if ((rdAll text ty 201 0 (rX10_begins draft)).1) = (-4) then (if (((rdAll text ty 201 0 (rX10_begins draft)).2.2) 0) = 0 then ((-2), told, ((rdAll text ty 201 0 (rX10_begins draft)).2.2), s, known, kept, noted, (nI ((rdAll text ty 201 0 (rX10_begins draft)).2.1))) else ((((rX10_lays told ((rdAll text ty 201 0 (rX10_begins draft)).2.2) s).1) 0), ((rX10_lays told ((rdAll text ty 201 0 (rX10_begins draft)).2.2) s).1), ((rdAll text ty 201 0 (rX10_begins draft)).2.2), ((rX10_lays told ((rdAll text ty 201 0 (rX10_begins draft)).2.2) s).2.1), ((rX10_lays told ((rdAll text ty 201 0 (rX10_begins draft)).2.2) s).2.2.1), ((rX10_lays told ((rdAll text ty 201 0 (rX10_begins draft)).2.2) s).2.2.2.1), ((rX10_lays told ((rdAll text ty 201 0 (rX10_begins draft)).2.2) s).2.2.2.2), (nI ((rdAll text ty 201 0 (rX10_begins draft)).2.1)))) else ((-2), told, ((rdAll text ty 201 0 (rX10_begins draft)).2.2), s, known, kept, noted, (nI ((rdAll text ty 201 0 (rX10_begins draft)).2.1))))
set_option maxRecDepth 100000 in
set_option maxHeartbeats 4000000 in
theorem MX10_lay {w : gW} {al : Bool} {known kept noted at_ : Int32} {text told draft s past images notes alone parts held : Int32 → Int32} {ty : Nat} (hty : ty ≤ 200)  : M w gT0 al mX10_lay 0 0 (hM text (nI ty) told draft s past known images kept notes noted at_ alone parts held) [.ref 0] (gEq (hM text (nI ty) ((rX10_lay text told draft s known kept noted ty).2.1) ((rX10_lay text told draft s known kept noted ty).2.2.1) ((rX10_lay text told draft s known kept noted ty).2.2.2.1) past ((rX10_lay text told draft s known kept noted ty).2.2.2.2.1) images ((rX10_lay text told draft s known kept noted ty).2.2.2.2.2.1) notes ((rX10_lay text told draft s known kept noted ty).2.2.2.2.2.2.1) ((rX10_lay text told draft s known kept noted ty).2.2.2.2.2.2.2) alone parts held) (some (.int ((rX10_lay text told draft s known kept noted ty).1)))) := by
  refine M.of (L0 := [.ref 0]) (by decide +kernel) (Nat.le_of_ble_eq_true rfl) rfl ?_
  refine g_aload_n dX10_lay_0 rfl 1 rfl rfl ?_
  refine g_cVv (as := []) (st := []) dX10_lay_1 4 rfl kX10_76 ⟨Nat.le_of_ble_eq_true rfl, Nat.le_of_ble_eq_true rfl⟩ (MX10_readsAll (ty := ty) (by omega)) rfl rfl rfl rfl (Nat.le_of_ble_eq_true rfl) (Nat.le_refl _) (Nat.le_refl _) ?_
  refine g_bipush (-4) dX10_lay_4 6 rfl (by decide) ?_
  refine g_icmp_ne dX10_lay_6 18 rfl 9 rfl (fun c1 => ?_) (fun c1 => ?_)
  · refine g_bipush (-2) dX10_lay_18 20 rfl (by decide) ?_
    refine g_ireturn dX10_lay_20 rfl rfl (Nat.le_refl _) (Nat.le_refl _) ?_
    have e : (rX10_lay text told draft s known kept noted ty) = ((-2), told, ((rdAll text ty 201 0 (rX10_begins draft)).2.2), s, known, kept, noted, (nI ((rdAll text ty 201 0 (rX10_begins draft)).2.1))) := by rw [rX10_lay, if_neg c1]
    rw [e]
    exact ⟨rfl, rfl⟩
  · refine g_aload_n dX10_lay_9 rfl 10 rfl rfl ?_
    refine g_get (v := .ref 3) dX10_lay_10 13 rfl lX10_16 rfl rfl ?_
    refine g_iconst 0 dX10_lay_13 14 rfl (by decide) ?_
    refine g_iaload (N := 40) dX10_lay_14 15 rfl rfl (vp_in_iff.mpr (by decide)) ?_
    refine g_if_ne dX10_lay_15 21 rfl 18 rfl (fun c2 => ?_) (fun c2 => ?_)
    · refine g_aload_n dX10_lay_21 rfl 22 rfl rfl ?_
      refine g_cV0 (as := []) (st := []) dX10_lay_22 25 rfl kX10_47 ⟨Nat.le_of_ble_eq_true rfl, Nat.le_of_ble_eq_true rfl⟩ (MX10_lays) rfl rfl rfl rfl (Nat.le_of_ble_eq_true rfl) (Nat.le_refl _) (Nat.le_refl _) ?_
      refine g_aload_n dX10_lay_25 rfl 26 rfl rfl ?_
      refine g_get (v := .ref 2) dX10_lay_26 29 rfl lX10_13 rfl rfl ?_
      refine g_iconst 0 dX10_lay_29 30 rfl (by decide) ?_
      refine g_iaload (N := 40) dX10_lay_30 31 rfl rfl (vp_in_iff.mpr (by decide)) ?_
      refine g_ireturn dX10_lay_31 rfl rfl (Nat.le_refl _) (Nat.le_refl _) ?_
      have e : (rX10_lay text told draft s known kept noted ty) = ((((rX10_lays told ((rdAll text ty 201 0 (rX10_begins draft)).2.2) s).1) 0), ((rX10_lays told ((rdAll text ty 201 0 (rX10_begins draft)).2.2) s).1), ((rdAll text ty 201 0 (rX10_begins draft)).2.2), ((rX10_lays told ((rdAll text ty 201 0 (rX10_begins draft)).2.2) s).2.1), ((rX10_lays told ((rdAll text ty 201 0 (rX10_begins draft)).2.2) s).2.2.1), ((rX10_lays told ((rdAll text ty 201 0 (rX10_begins draft)).2.2) s).2.2.2.1), ((rX10_lays told ((rdAll text ty 201 0 (rX10_begins draft)).2.2) s).2.2.2.2), (nI ((rdAll text ty 201 0 (rX10_begins draft)).2.1))) := by rw [rX10_lay, if_pos c1, if_neg c2]
      rw [e]
      exact ⟨rfl, rfl⟩
    · refine g_bipush (-2) dX10_lay_18 20 rfl (by decide) ?_
      refine g_ireturn dX10_lay_20 rfl rfl (Nat.le_refl _) (Nat.le_refl _) ?_
      have e : (rX10_lay text told draft s known kept noted ty) = ((-2), told, ((rdAll text ty 201 0 (rX10_begins draft)).2.2), s, known, kept, noted, (nI ((rdAll text ty 201 0 (rX10_begins draft)).2.1))) := by rw [rX10_lay, if_pos c1, if_pos c2]
      rw [e]
      exact ⟨rfl, rfl⟩
