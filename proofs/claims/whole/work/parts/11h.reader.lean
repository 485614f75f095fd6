/-! the class: Reader -/
def rX1_isFigure (lt : Int32) : Bool := (if lt < 48 then false else (if 57 < lt then false else true))
set_option maxRecDepth 100000 in
set_option maxHeartbeats 4000000 in
theorem MX1_isFigure {w : gW} {al : Bool} {h : gH}  (lt : Int32)  : M w gT0 al mX1_isFigure 0 0 h [.int lt] (gEq h (some (.int (gB (rX1_isFigure lt))))) := by
  refine M.of (L0 := [.int lt]) (by decide +kernel) (Nat.le_of_ble_eq_true rfl) rfl ?_
  refine g_iload_n dX1_isFigure_0 rfl 1 rfl rfl ?_
  refine g_bipush 48 dX1_isFigure_1 3 rfl (by decide) ?_
  refine g_icmp_lt dX1_isFigure_3 16 rfl 6 rfl (fun c1 => ?_) (fun c1 => ?_)
  · refine g_iconst 0 dX1_isFigure_16 17 rfl (by decide) ?_
    refine g_ireturn dX1_isFigure_17 rfl rfl (Nat.le_refl _) (Nat.le_refl _) ?_
    have e : (rX1_isFigure lt) = false := by rw [rX1_isFigure, if_pos c1]
    rw [e]
    exact ⟨rfl, rfl⟩
  · refine g_iload_n dX1_isFigure_6 rfl 7 rfl rfl ?_
    refine g_bipush 57 dX1_isFigure_7 9 rfl (by decide) ?_
    refine g_icmp_gt dX1_isFigure_9 16 rfl 12 rfl (fun c2 => ?_) (fun c2 => ?_)
    · refine g_iconst 0 dX1_isFigure_16 17 rfl (by decide) ?_
      refine g_ireturn dX1_isFigure_17 rfl rfl (Nat.le_refl _) (Nat.le_refl _) ?_
      have e : (rX1_isFigure lt) = false := by rw [rX1_isFigure, if_neg c1, if_pos c2]
      rw [e]
      exact ⟨rfl, rfl⟩
    · refine g_iconst 1 dX1_isFigure_12 13 rfl (by decide) ?_
      refine g_goto dX1_isFigure_13 17 rfl ?_
      refine g_ireturn dX1_isFigure_17 rfl rfl (Nat.le_refl _) (Nat.le_refl _) ?_
      have e : (rX1_isFigure lt) = true := by rw [rX1_isFigure, if_neg c1, if_neg c2]
      rw [e]
      exact ⟨rfl, rfl⟩
def rX1_readNumber (tl : Int32 → Int32) (ty : Nat) (ax : Nat) : Int32 × Nat := (if (rX1_isFigure (rX7_letterAt tl ax ty)) = true then (if (rX1_isFigure (rX7_letterAt tl (ax + 1) ty)) = true then ((((10 * ((rX7_letterAt tl ax ty) - 48)) + (rX7_letterAt tl (ax + 1) ty)) - 48), (ax + 1) + 1) else (((rX7_letterAt tl ax ty) - 48), ax + 1)) else ((-4), ax))
set_option maxRecDepth 100000 in
set_option maxHeartbeats 4000000 in
theorem MX1_readNumber {w : gW} {al : Bool} {tl rn ki ag co pa me dki dag dco dpa dme nt tnt os og cs mo le se ab : Int32 → Int32} {so rs wa be pr dso drs dwa dbe dpr nm nb nc nd ns np tnm tnb tnc tnd tns tnp ph kh oh pk pc lf cu cd : Int32} {pf : Nat → Option Nat} {pst kst : Nat → gS} {ty ax : Nat} (hty : ty ≤ 200) (hax : ax < 990)  : M w gT0 al mX1_readNumber 0 0 (hC tl (nI ty) rn (nI ax) ki ag co pa me so rs wa be pr dki dag dco dpa dme dso drs dwa dbe dpr nt nm nb nc nd ns np tnt tnm tnb tnc tnd tns tnp pf ph pst kh kst os og oh cs mo le se pk pc lf ab cu cd) [.ref 4] (gEq (hC tl (nI ty) rn (nI ((rX1_readNumber tl ty ax).2)) ki ag co pa me so rs wa be pr dki dag dco dpa dme dso drs dwa dbe dpr nt nm nb nc nd ns np tnt tnm tnb tnc tnd tns tnp pf ph pst kh kst os og oh cs mo le se pk pc lf ab cu cd) (some (.int ((rX1_readNumber tl ty ax).1)))) := by
  refine M.of (L0 := [.ref 4, gF, gF]) (by decide +kernel) (Nat.le_of_ble_eq_true rfl) rfl ?_
  refine g_aload_n dX1_readNumber_0 rfl 1 rfl rfl ?_
  refine g_get (v := .ref 1) dX1_readNumber_1 4 rfl lX1_20 rfl rfl ?_
  refine g_aload_n dX1_readNumber_4 rfl 5 rfl rfl ?_
  refine g_get (v := .int (nI ax)) dX1_readNumber_5 8 rfl lX1_29 rfl rfl ?_
  refine g_cVv (as := [.int (nI ax)]) (st := []) dX1_readNumber_8 11 rfl kX1_43 ⟨Nat.le_of_ble_eq_true rfl, Nat.le_of_ble_eq_true rfl⟩ (MX7_letterAt (ty := ty) ax (by omega) (by omega)) rfl rfl rfl rfl (Nat.le_of_ble_eq_true rfl) (Nat.le_refl _) (Nat.le_refl _) ?_
  refine g_istore1 dX1_readNumber_11 12 rfl (by decide) rfl ?_
  refine g_iload_n dX1_readNumber_12 rfl 13 rfl rfl ?_
  refine g_cSv (as := [.int (rX7_letterAt tl ax ty)]) (st := []) dX1_readNumber_13 16 rfl kX1_69 ⟨Nat.le_of_ble_eq_true rfl, Nat.le_of_ble_eq_true rfl⟩ (MX1_isFigure (rX7_letterAt tl ax ty)) rfl (Nat.le_of_ble_eq_true rfl) (Nat.le_refl _) (Nat.le_refl _) ?_
  refine g_if_ne dX1_readNumber_16 22 rfl 19 rfl (fun c1 => ?_) (fun c1 => ?_)
  · replace c1 := gB_t c1
    refine g_aload_n dX1_readNumber_22 rfl 23 rfl rfl ?_
    refine g_dup dX1_readNumber_23 24 rfl rfl ?_
    refine g_get (v := .int (nI ax)) dX1_readNumber_24 27 rfl lX1_29 rfl rfl ?_
    refine g_iconst 1 dX1_readNumber_27 28 rfl (by decide) ?_
    refine g_iadd' dX1_readNumber_28 29 rfl (nI (ax + 1)) (nI_add _ 1) ?_
    refine g_put dX1_readNumber_29 32 rfl lX1_29 wrX1 rfl rfl rfl rfl rfl (Nat.le_of_ble_eq_true rfl) (h' := (hC tl (nI ty) rn (nI (ax + 1)) ki ag co pa me so rs wa be pr dki dag dco dpa dme dso drs dwa dbe dpr nt nm nb nc nd ns np tnt tnm tnb tnc tnd tns tnp pf ph pst kh kst os og oh cs mo le se pk pc lf ab cu cd)) rfl ?_
    refine g_aload_n dX1_readNumber_32 rfl 33 rfl rfl ?_
    refine g_get (v := .ref 1) dX1_readNumber_33 36 rfl lX1_20 rfl rfl ?_
    refine g_aload_n dX1_readNumber_36 rfl 37 rfl rfl ?_
    refine g_get (v := .int (nI (ax + 1))) dX1_readNumber_37 40 rfl lX1_29 rfl rfl ?_
    refine g_cVv (as := [.int (nI (ax + 1))]) (st := []) dX1_readNumber_40 43 rfl kX1_43 ⟨Nat.le_of_ble_eq_true rfl, Nat.le_of_ble_eq_true rfl⟩ (MX7_letterAt (ty := ty) (ax + 1) (by omega) (by omega)) rfl rfl rfl rfl (Nat.le_of_ble_eq_true rfl) (Nat.le_refl _) (Nat.le_refl _) ?_
    refine g_istore2 dX1_readNumber_43 44 rfl (by decide) rfl ?_
    refine g_iload_n dX1_readNumber_44 rfl 45 rfl rfl ?_
    refine g_cSv (as := [.int (rX7_letterAt tl (ax + 1) ty)]) (st := []) dX1_readNumber_45 48 rfl kX1_69 ⟨Nat.le_of_ble_eq_true rfl, Nat.le_of_ble_eq_true rfl⟩ (MX1_isFigure (rX7_letterAt tl (ax + 1) ty)) rfl (Nat.le_of_ble_eq_true rfl) (Nat.le_refl _) (Nat.le_refl _) ?_
    refine g_if_ne dX1_readNumber_48 56 rfl 51 rfl (fun c2 => ?_) (fun c2 => ?_)
    · replace c2 := gB_t c2
      refine g_aload_n dX1_readNumber_56 rfl 57 rfl rfl ?_
      refine g_dup dX1_readNumber_57 58 rfl rfl ?_
      refine g_get (v := .int (nI (ax + 1))) dX1_readNumber_58 61 rfl lX1_29 rfl rfl ?_
      refine g_iconst 1 dX1_readNumber_61 62 rfl (by decide) ?_
      refine g_iadd' dX1_readNumber_62 63 rfl (nI ((ax + 1) + 1)) (nI_add _ 1) ?_
      refine g_put dX1_readNumber_63 66 rfl lX1_29 wrX1 rfl rfl rfl rfl rfl (Nat.le_of_ble_eq_true rfl) (h' := (hC tl (nI ty) rn (nI ((ax + 1) + 1)) ki ag co pa me so rs wa be pr dki dag dco dpa dme dso drs dwa dbe dpr nt nm nb nc nd ns np tnt tnm tnb tnc tnd tns tnp pf ph pst kh kst os og oh cs mo le se pk pc lf ab cu cd)) rfl ?_
      refine g_bipush 10 dX1_readNumber_66 68 rfl (by decide) ?_
      refine g_iload_n dX1_readNumber_68 rfl 69 rfl rfl ?_
      refine g_bipush 48 dX1_readNumber_69 71 rfl (by decide) ?_
      refine g_isub dX1_readNumber_71 72 rfl ?_
      refine g_imul dX1_readNumber_72 73 rfl ?_
      refine g_iload_n dX1_readNumber_73 rfl 74 rfl rfl ?_
      refine g_iadd dX1_readNumber_74 75 rfl ?_
      refine g_bipush 48 dX1_readNumber_75 77 rfl (by decide) ?_
      refine g_isub dX1_readNumber_77 78 rfl ?_
      refine g_ireturn dX1_readNumber_78 rfl rfl (Nat.le_refl _) (Nat.le_refl _) ?_
      have e : (rX1_readNumber tl ty ax) = ((((10 * ((rX7_letterAt tl ax ty) - 48)) + (rX7_letterAt tl (ax + 1) ty)) - 48), (ax + 1) + 1) := by rw [rX1_readNumber, if_pos c1, if_pos c2]
      rw [e]
      exact ⟨rfl, rfl⟩
    · replace c2 := gB_f c2
      refine g_iload_n dX1_readNumber_51 rfl 52 rfl rfl ?_
      refine g_bipush 48 dX1_readNumber_52 54 rfl (by decide) ?_
      refine g_isub dX1_readNumber_54 55 rfl ?_
      refine g_ireturn dX1_readNumber_55 rfl rfl (Nat.le_refl _) (Nat.le_refl _) ?_
      have e : (rX1_readNumber tl ty ax) = (((rX7_letterAt tl ax ty) - 48), ax + 1) := by rw [rX1_readNumber, if_pos c1, if_neg c2]
      rw [e]
      exact ⟨rfl, rfl⟩
  · replace c1 := gB_f c1
    refine g_bipush (-4) dX1_readNumber_19 21 rfl (by decide) ?_
    refine g_ireturn dX1_readNumber_21 rfl rfl (Nat.le_refl _) (Nat.le_refl _) ?_
    have e : (rX1_readNumber tl ty ax) = ((-4), ax) := by rw [rX1_readNumber, if_neg c1]
    rw [e]
    exact ⟨rfl, rfl⟩
theorem readNumber_le {tl : Int32 → Int32} {ty ax : Nat} : (rX1_readNumber tl ty ax).2 ≤ ax + 2 := by
  unfold rX1_readNumber
  repeat (split <;> try (dsimp only; omega))
theorem readNumber_lt {tl : Int32 → Int32} {ty ax : Nat} (h : ax < 990) : (rX1_readNumber tl ty ax).2 < 1000 := Nat.lt_of_le_of_lt readNumber_le (by omega)
theorem readNumber_inv {tl : Int32 → Int32} {ty u d : Nat} (h : u + 3 * (d + 1) ≤ 900) : (rX1_readNumber tl ty u).2 + 1 + 3 * d ≤ 900 := by
  have q := readNumber_le (tl := tl) (ty := ty) (ax := u)
  omega
def fX1_readNumbers_2 (tl : Int32 → Int32) (mn : Nat) (ty : Nat) : Nat → (Nat × (Int32 → Int32) × Bool) → Bool × (Nat × (Int32 → Int32) × Bool)
  | i, (u0, rn, br) => (if (nI i) = ((nI mn) - 1) then (if ((rX1_readNumber tl ty u0).1) = (-4) then (true, (((rX1_readNumber tl ty u0).2), rn, true)) else (if (rX7_letterAt tl ((rX1_readNumber tl ty u0).2) ty) = 59 then (false, ((((rX1_readNumber tl ty u0).2) + 1), (gup rn (nI i) ((rX1_readNumber tl ty u0).1)), false)) else (true, (((rX1_readNumber tl ty u0).2), rn, true)))) else (if ((rX1_readNumber tl ty u0).1) = (-4) then (true, (((rX1_readNumber tl ty u0).2), rn, true)) else (if (rX7_letterAt tl ((rX1_readNumber tl ty u0).2) ty) = 44 then (false, ((((rX1_readNumber tl ty u0).2) + 1), (gup rn (nI i) ((rX1_readNumber tl ty u0).1)), false)) else (true, (((rX1_readNumber tl ty u0).2), rn, true)))))
set_option maxRecDepth 100000 in
set_option maxHeartbeats 4000000 in
theorem LX1_readNumbers_2 {w : gW} {al : Bool} {tl ki ag co pa me dki dag dco dpa dme nt tnt os og cs mo le se ab : Int32 → Int32} {so rs wa be pr dso drs dwa dbe dpr nm nb nc nd ns np tnm tnb tnc tnd tns tnp ph kh oh pk pc lf cu cd : Int32} {pf : Nat → Option Nat} {pst kst : Nat → gS} {n : Nat} {P : gP} {ty : Nat} {mn : Nat} (hty : ty ≤ 200) (hmn : mn ≤ 4)  : ∀ (d i : Nat) (u0 : Nat) (rn : Int32 → Int32), i + d = mn → u0 + 3 * d ≤ 900 → (¬ (gWh (fX1_readNumbers_2 tl mn ty) d i (u0, rn, false)).2.2 = true → G w gT0 al n mX1_readNumbers 0 0 P 0 0 (hC tl (nI ty) ((gWh (fX1_readNumbers_2 tl mn ty) d i (u0, rn, false)).2.1) (nI ((gWh (fX1_readNumbers_2 tl mn ty) d i (u0, rn, false)).1)) ki ag co pa me so rs wa be pr dki dag dco dpa dme dso drs dwa dbe dpr nt nm nb nc nd ns np tnt tnm tnb tnc tnd tns tnp pf ph pst kh kst os og oh cs mo le se pk pc lf ab cu cd) 77 [.ref 4, .int (nI mn), gF, gF, gF] []) → ((gWh (fX1_readNumbers_2 tl mn ty) d i (u0, rn, false)).2.2 = true → P (hC tl (nI ty) ((gWh (fX1_readNumbers_2 tl mn ty) d i (u0, rn, false)).2.1) (nI ((gWh (fX1_readNumbers_2 tl mn ty) d i (u0, rn, false)).1)) ki ag co pa me so rs wa be pr dki dag dco dpa dme dso drs dwa dbe dpr nt nm nb nc nd ns np tnt tnm tnb tnc tnd tns tnp pf ph pst kh kst os og oh cs mo le se pk pc lf ab cu cd) (some (.int 0))) → G w gT0 al n mX1_readNumbers 0 0 P 0 0 (hC tl (nI ty) rn (nI u0) ki ag co pa me so rs wa be pr dki dag dco dpa dme dso drs dwa dbe dpr nt nm nb nc nd ns np tnt tnm tnb tnc tnd tns tnp pf ph pst kh kst os og oh cs mo le se pk pc lf ab cu cd) 2 [.ref 4, .int (nI mn), .int (nI i), gF, gF] [] := by
  intro d
  induction d with
  | zero =>
    intro i u0 rn hi hinv k k2
    have hN : i = mn := by omega
    rw [hN]
    rw [hN] at k
    refine g_iload_n dX1_readNumbers_2 rfl 3 rfl rfl ?_
    refine g_iload_n dX1_readNumbers_3 rfl 4 rfl rfl ?_
    refine g_icmp_ge dX1_readNumbers_4 77 rfl 7 rfl (fun _ => ?_) (fun c => absurd (nI_le (Nat.le_refl _) (by omega)) c)
    refine g_fgt (L' := [.ref 4, .int (nI mn), gF, gF, gF]) ⟨Or.inl rfl, Or.inl rfl, Or.inr rfl, Or.inl rfl, Or.inl rfl, trivial⟩ ?_
    exact k (by simp [gWh])
  | succ d ih =>
    intro i u0 rn hi hinv k k2
    refine g_iload_n dX1_readNumbers_2 rfl 3 rfl rfl ?_
    refine g_iload_n dX1_readNumbers_3 rfl 4 rfl rfl ?_
    refine g_icmp_ge dX1_readNumbers_4 77 rfl 7 rfl (fun c => absurd c (nI_ge (by omega) (by omega))) (fun _ => ?_)
    refine g_aload_n dX1_readNumbers_7 rfl 8 rfl rfl ?_
    refine g_cVv (as := []) (st := []) dX1_readNumbers_8 11 rfl kX1_62 ⟨Nat.le_of_ble_eq_true rfl, Nat.le_of_ble_eq_true rfl⟩ (MX1_readNumber (ty := ty) (ax := u0) (by omega) (by omega)) rfl rfl rfl rfl (Nat.le_of_ble_eq_true rfl) (Nat.le_refl _) (Nat.le_refl _) ?_
    refine g_istore3 dX1_readNumbers_11 12 rfl (by decide) rfl ?_
    refine g_iload_n dX1_readNumbers_12 rfl 13 rfl rfl ?_
    refine g_iload_n dX1_readNumbers_13 rfl 14 rfl rfl ?_
    refine g_iconst 1 dX1_readNumbers_14 15 rfl (by decide) ?_
    refine g_isub dX1_readNumbers_15 16 rfl ?_
    refine g_icmp_ne dX1_readNumbers_16 24 rfl 19 rfl (fun c1 => ?_) (fun c1 => ?_)
    · refine g_bipush 44 dX1_readNumbers_24 26 rfl (by decide) ?_
      refine g_istore4 dX1_readNumbers_26 28 rfl (by decide) rfl ?_
      refine g_iload_n dX1_readNumbers_28 rfl 29 rfl rfl ?_
      refine g_bipush (-4) dX1_readNumbers_29 31 rfl (by decide) ?_
      refine g_icmp_eq dX1_readNumbers_31 50 rfl 34 rfl (fun c4 => ?_) (fun c4 => ?_)
      · refine g_iconst 0 dX1_readNumbers_50 51 rfl (by decide) ?_
        refine g_ireturn dX1_readNumbers_51 rfl rfl (Nat.le_refl _) (Nat.le_refl _) ?_
        have e : (fX1_readNumbers_2 tl mn ty) i (u0, rn, false) = (true, (((rX1_readNumber tl ty u0).2), rn, true)) := by rw [fX1_readNumbers_2, if_neg c1, if_pos c4]
        rw [gWh_t e] at k2
        exact k2 rfl
      · refine g_aload_n dX1_readNumbers_34 rfl 35 rfl rfl ?_
        refine g_get (v := .ref 1) dX1_readNumbers_35 38 rfl lX1_20 rfl rfl ?_
        refine g_aload_n dX1_readNumbers_38 rfl 39 rfl rfl ?_
        refine g_get (v := .int (nI ((rX1_readNumber tl ty u0).2))) dX1_readNumbers_39 42 rfl lX1_29 rfl rfl ?_
        refine g_cVv (as := [.int (nI ((rX1_readNumber tl ty u0).2))]) (st := []) dX1_readNumbers_42 45 rfl kX1_43 ⟨Nat.le_of_ble_eq_true rfl, Nat.le_of_ble_eq_true rfl⟩ (MX7_letterAt (ty := ty) ((rX1_readNumber tl ty u0).2) (by omega) (readNumber_lt (by omega))) rfl rfl rfl rfl (Nat.le_of_ble_eq_true rfl) (Nat.le_refl _) (Nat.le_refl _) ?_
        refine g_iload dX1_readNumbers_45 47 rfl rfl ?_
        refine g_icmp_eq dX1_readNumbers_47 52 rfl 50 rfl (fun c5 => ?_) (fun c5 => ?_)
        · refine g_aload_n dX1_readNumbers_52 rfl 53 rfl rfl ?_
          refine g_dup dX1_readNumbers_53 54 rfl rfl ?_
          refine g_get (v := .int (nI ((rX1_readNumber tl ty u0).2))) dX1_readNumbers_54 57 rfl lX1_29 rfl rfl ?_
          refine g_iconst 1 dX1_readNumbers_57 58 rfl (by decide) ?_
          refine g_iadd' dX1_readNumbers_58 59 rfl (nI (((rX1_readNumber tl ty u0).2) + 1)) (nI_add _ 1) ?_
          refine g_put dX1_readNumbers_59 62 rfl lX1_29 wrX1 rfl rfl rfl rfl rfl (Nat.le_of_ble_eq_true rfl) (h' := (hC tl (nI ty) rn (nI (((rX1_readNumber tl ty u0).2) + 1)) ki ag co pa me so rs wa be pr dki dag dco dpa dme dso drs dwa dbe dpr nt nm nb nc nd ns np tnt tnm tnb tnc tnd tns tnp pf ph pst kh kst os og oh cs mo le se pk pc lf ab cu cd)) rfl ?_
          refine g_aload_n dX1_readNumbers_62 rfl 63 rfl rfl ?_
          refine g_get (v := .ref 5) dX1_readNumbers_63 66 rfl lX1_16 rfl rfl ?_
          refine g_iload_n dX1_readNumbers_66 rfl 67 rfl rfl ?_
          refine g_iload_n dX1_readNumbers_67 rfl 68 rfl rfl ?_
          refine g_cV0 (as := [.int (nI i), .int ((rX1_readNumber tl ty u0).1)]) (st := []) dX1_readNumbers_68 71 rfl kX1_65 ⟨Nat.le_of_ble_eq_true rfl, Nat.le_of_ble_eq_true rfl⟩ (MX3_putN (k := 5) (j := 6) (N := 4) (f := rn) rfl rfl (by decide) i (by omega) ((rX1_readNumber tl ty u0).1) (h' := (hC tl (nI ty) (gup rn (nI i) ((rX1_readNumber tl ty u0).1)) (nI (((rX1_readNumber tl ty u0).2) + 1)) ki ag co pa me so rs wa be pr dki dag dco dpa dme dso drs dwa dbe dpr nt nm nb nc nd ns np tnt tnm tnb tnc tnd tns tnp pf ph pst kh kst os og oh cs mo le se pk pc lf ab cu cd)) rfl) rfl rfl rfl rfl (Nat.le_of_ble_eq_true rfl) (Nat.le_refl _) (Nat.le_refl _) ?_
          refine g_iinc2 dX1_readNumbers_71 74 rfl 1 (by decide) (nI (i + 1)) (nI_add _ 1) (by decide) rfl ?_
          refine g_goto dX1_readNumbers_74 2 rfl ?_
          refine g_fgt (L' := [.ref 4, .int (nI mn), .int (nI (i + 1)), gF, gF]) ⟨Or.inl rfl, Or.inl rfl, Or.inl rfl, Or.inr rfl, Or.inr rfl, trivial⟩ ?_
          have e : (fX1_readNumbers_2 tl mn ty) i (u0, rn, false) = (false, ((((rX1_readNumber tl ty u0).2) + 1), (gup rn (nI i) ((rX1_readNumber tl ty u0).1)), false)) := by rw [fX1_readNumbers_2, if_neg c1, if_neg c4, if_pos c5]
          rw [gWh_f e] at k k2
          refine ih (i + 1) (((rX1_readNumber tl ty u0).2) + 1) (gup rn (nI i) ((rX1_readNumber tl ty u0).1)) (by omega) (readNumber_inv hinv) k k2
        · refine g_iconst 0 dX1_readNumbers_50 51 rfl (by decide) ?_
          refine g_ireturn dX1_readNumbers_51 rfl rfl (Nat.le_refl _) (Nat.le_refl _) ?_
          have e : (fX1_readNumbers_2 tl mn ty) i (u0, rn, false) = (true, (((rX1_readNumber tl ty u0).2), rn, true)) := by rw [fX1_readNumbers_2, if_neg c1, if_neg c4, if_neg c5]
          rw [gWh_t e] at k2
          exact k2 rfl
    · refine g_bipush 59 dX1_readNumbers_19 21 rfl (by decide) ?_
      refine g_goto dX1_readNumbers_21 26 rfl ?_
      refine g_istore4 dX1_readNumbers_26 28 rfl (by decide) rfl ?_
      refine g_iload_n dX1_readNumbers_28 rfl 29 rfl rfl ?_
      refine g_bipush (-4) dX1_readNumbers_29 31 rfl (by decide) ?_
      refine g_icmp_eq dX1_readNumbers_31 50 rfl 34 rfl (fun c2 => ?_) (fun c2 => ?_)
      · refine g_iconst 0 dX1_readNumbers_50 51 rfl (by decide) ?_
        refine g_ireturn dX1_readNumbers_51 rfl rfl (Nat.le_refl _) (Nat.le_refl _) ?_
        have e : (fX1_readNumbers_2 tl mn ty) i (u0, rn, false) = (true, (((rX1_readNumber tl ty u0).2), rn, true)) := by rw [fX1_readNumbers_2, if_pos c1, if_pos c2]
        rw [gWh_t e] at k2
        exact k2 rfl
      · refine g_aload_n dX1_readNumbers_34 rfl 35 rfl rfl ?_
        refine g_get (v := .ref 1) dX1_readNumbers_35 38 rfl lX1_20 rfl rfl ?_
        refine g_aload_n dX1_readNumbers_38 rfl 39 rfl rfl ?_
        refine g_get (v := .int (nI ((rX1_readNumber tl ty u0).2))) dX1_readNumbers_39 42 rfl lX1_29 rfl rfl ?_
        refine g_cVv (as := [.int (nI ((rX1_readNumber tl ty u0).2))]) (st := []) dX1_readNumbers_42 45 rfl kX1_43 ⟨Nat.le_of_ble_eq_true rfl, Nat.le_of_ble_eq_true rfl⟩ (MX7_letterAt (ty := ty) ((rX1_readNumber tl ty u0).2) (by omega) (readNumber_lt (by omega))) rfl rfl rfl rfl (Nat.le_of_ble_eq_true rfl) (Nat.le_refl _) (Nat.le_refl _) ?_
        refine g_iload dX1_readNumbers_45 47 rfl rfl ?_
        refine g_icmp_eq dX1_readNumbers_47 52 rfl 50 rfl (fun c3 => ?_) (fun c3 => ?_)
        · refine g_aload_n dX1_readNumbers_52 rfl 53 rfl rfl ?_
          refine g_dup dX1_readNumbers_53 54 rfl rfl ?_
          refine g_get (v := .int (nI ((rX1_readNumber tl ty u0).2))) dX1_readNumbers_54 57 rfl lX1_29 rfl rfl ?_
          refine g_iconst 1 dX1_readNumbers_57 58 rfl (by decide) ?_
          refine g_iadd' dX1_readNumbers_58 59 rfl (nI (((rX1_readNumber tl ty u0).2) + 1)) (nI_add _ 1) ?_
          refine g_put dX1_readNumbers_59 62 rfl lX1_29 wrX1 rfl rfl rfl rfl rfl (Nat.le_of_ble_eq_true rfl) (h' := (hC tl (nI ty) rn (nI (((rX1_readNumber tl ty u0).2) + 1)) ki ag co pa me so rs wa be pr dki dag dco dpa dme dso drs dwa dbe dpr nt nm nb nc nd ns np tnt tnm tnb tnc tnd tns tnp pf ph pst kh kst os og oh cs mo le se pk pc lf ab cu cd)) rfl ?_
          refine g_aload_n dX1_readNumbers_62 rfl 63 rfl rfl ?_
          refine g_get (v := .ref 5) dX1_readNumbers_63 66 rfl lX1_16 rfl rfl ?_
          refine g_iload_n dX1_readNumbers_66 rfl 67 rfl rfl ?_
          refine g_iload_n dX1_readNumbers_67 rfl 68 rfl rfl ?_
          refine g_cV0 (as := [.int (nI i), .int ((rX1_readNumber tl ty u0).1)]) (st := []) dX1_readNumbers_68 71 rfl kX1_65 ⟨Nat.le_of_ble_eq_true rfl, Nat.le_of_ble_eq_true rfl⟩ (MX3_putN (k := 5) (j := 6) (N := 4) (f := rn) rfl rfl (by decide) i (by omega) ((rX1_readNumber tl ty u0).1) (h' := (hC tl (nI ty) (gup rn (nI i) ((rX1_readNumber tl ty u0).1)) (nI (((rX1_readNumber tl ty u0).2) + 1)) ki ag co pa me so rs wa be pr dki dag dco dpa dme dso drs dwa dbe dpr nt nm nb nc nd ns np tnt tnm tnb tnc tnd tns tnp pf ph pst kh kst os og oh cs mo le se pk pc lf ab cu cd)) rfl) rfl rfl rfl rfl (Nat.le_of_ble_eq_true rfl) (Nat.le_refl _) (Nat.le_refl _) ?_
          refine g_iinc2 dX1_readNumbers_71 74 rfl 1 (by decide) (nI (i + 1)) (nI_add _ 1) (by decide) rfl ?_
          refine g_goto dX1_readNumbers_74 2 rfl ?_
          refine g_fgt (L' := [.ref 4, .int (nI mn), .int (nI (i + 1)), gF, gF]) ⟨Or.inl rfl, Or.inl rfl, Or.inl rfl, Or.inr rfl, Or.inr rfl, trivial⟩ ?_
          have e : (fX1_readNumbers_2 tl mn ty) i (u0, rn, false) = (false, ((((rX1_readNumber tl ty u0).2) + 1), (gup rn (nI i) ((rX1_readNumber tl ty u0).1)), false)) := by rw [fX1_readNumbers_2, if_pos c1, if_neg c2, if_pos c3]
          rw [gWh_f e] at k k2
          refine ih (i + 1) (((rX1_readNumber tl ty u0).2) + 1) (gup rn (nI i) ((rX1_readNumber tl ty u0).1)) (by omega) (readNumber_inv hinv) k k2
        · refine g_iconst 0 dX1_readNumbers_50 51 rfl (by decide) ?_
          refine g_ireturn dX1_readNumbers_51 rfl rfl (Nat.le_refl _) (Nat.le_refl _) ?_
          have e : (fX1_readNumbers_2 tl mn ty) i (u0, rn, false) = (true, (((rX1_readNumber tl ty u0).2), rn, true)) := by rw [fX1_readNumbers_2, if_pos c1, if_neg c2, if_neg c3]
          rw [gWh_t e] at k2
          exact k2 rfl
theorem readNumbers_lp {tl : Int32 → Int32} {ty mn : Nat} : ∀ (d i u : Nat) (rn : Int32 → Int32) (b : Bool), u + 3 * d ≤ 900 → (gWh (fX1_readNumbers_2 tl mn ty) d i (u, rn, b)).1 ≤ 900 := by
  intro d
  induction d with
  | zero => intro i u rn b h; rw [gWh]; dsimp only; omega
  | succ d ih =>
    intro i u rn b h
    have q := readNumber_le (tl := tl) (ty := ty) (ax := u)
    have h1 : (fX1_readNumbers_2 tl mn ty i (u, rn, b)).2.1 ≤ u + 3 := by
      unfold fX1_readNumbers_2
      dsimp only
      repeat (split <;> try (dsimp only; omega))
    rw [gWh]
    split
    · omega
    · exact ih (i + 1) (fX1_readNumbers_2 tl mn ty i (u, rn, b)).2.1 (fX1_readNumbers_2 tl mn ty i (u, rn, b)).2.2.1 (fX1_readNumbers_2 tl mn ty i (u, rn, b)).2.2.2 (by omega)
def rX1_readNumbers (tl : Int32 → Int32) (rn : Int32 → Int32) (mn : Nat) (ty : Nat) (ax : Nat) : Bool × (Int32 → Int32) × Nat := (if (gWh (fX1_readNumbers_2 tl mn ty) mn 0 (ax, rn, false)).2.2 = true then (false, ((gWh (fX1_readNumbers_2 tl mn ty) mn 0 (ax, rn, false)).2.1), (gWh (fX1_readNumbers_2 tl mn ty) mn 0 (ax, rn, false)).1) else (true, ((gWh (fX1_readNumbers_2 tl mn ty) mn 0 (ax, rn, false)).2.1), (gWh (fX1_readNumbers_2 tl mn ty) mn 0 (ax, rn, false)).1))
set_option maxRecDepth 100000 in
set_option maxHeartbeats 4000000 in
theorem MX1_readNumbers {w : gW} {al : Bool} {tl rn ki ag co pa me dki dag dco dpa dme nt tnt os og cs mo le se ab : Int32 → Int32} {so rs wa be pr dso drs dwa dbe dpr nm nb nc nd ns np tnm tnb tnc tnd tns tnp ph kh oh pk pc lf cu cd : Int32} {pf : Nat → Option Nat} {pst kst : Nat → gS} {ty ax : Nat} (mn : Nat) (hty : ty ≤ 200) (hax : ax ≤ 800) (hmn : mn ≤ 4)  : M w gT0 al mX1_readNumbers 0 0 (hC tl (nI ty) rn (nI ax) ki ag co pa me so rs wa be pr dki dag dco dpa dme dso drs dwa dbe dpr nt nm nb nc nd ns np tnt tnm tnb tnc tnd tns tnp pf ph pst kh kst os og oh cs mo le se pk pc lf ab cu cd) [.ref 4, .int (nI mn)] (gEq (hC tl (nI ty) ((rX1_readNumbers tl rn mn ty ax).2.1) (nI ((rX1_readNumbers tl rn mn ty ax).2.2)) ki ag co pa me so rs wa be pr dki dag dco dpa dme dso drs dwa dbe dpr nt nm nb nc nd ns np tnt tnm tnb tnc tnd tns tnp pf ph pst kh kst os og oh cs mo le se pk pc lf ab cu cd) (some (.int (gB (rX1_readNumbers tl rn mn ty ax).1)))) := by
  refine M.of (L0 := [.ref 4, .int (nI mn), gF, gF, gF]) (by decide +kernel) (Nat.le_of_ble_eq_true rfl) rfl ?_
  refine g_iconst 0 dX1_readNumbers_0 1 rfl (by decide) ?_
  refine g_istore2 dX1_readNumbers_1 2 rfl (by decide) rfl ?_
  refine LX1_readNumbers_2 (mn := mn) (by omega) (by omega) mn 0 ax rn (by omega) (by omega) (fun c1 => ?_) (fun c1 => ?_)
  · refine g_iconst 1 dX1_readNumbers_77 78 rfl (by decide) ?_
    refine g_ireturn dX1_readNumbers_78 rfl rfl (Nat.le_refl _) (Nat.le_refl _) ?_
    have e : (rX1_readNumbers tl rn mn ty ax) = (true, ((gWh (fX1_readNumbers_2 tl mn ty) mn 0 (ax, rn, false)).2.1), (gWh (fX1_readNumbers_2 tl mn ty) mn 0 (ax, rn, false)).1) := by rw [rX1_readNumbers, if_neg c1]
    rw [e]
    exact ⟨rfl, rfl⟩
  · have e : (rX1_readNumbers tl rn mn ty ax) = (false, ((gWh (fX1_readNumbers_2 tl mn ty) mn 0 (ax, rn, false)).2.1), (gWh (fX1_readNumbers_2 tl mn ty) mn 0 (ax, rn, false)).1) := by rw [rX1_readNumbers, if_pos c1]
    rw [e]
    exact ⟨rfl, rfl⟩
def rX1_readItem_7 (tl : Int32 → Int32) (rn : Int32 → Int32) (ki : Int32 → Int32) (ag : Int32 → Int32) (co : Int32 → Int32) (pa : Int32 → Int32) (me : Int32 → Int32) (so : Int32) (wa : Int32) (be : Int32) (pr : Int32) (ty : Nat) (ax : Nat) (sz : Nat) : Bool × (Int32 → Int32) × Nat × (Int32 → Int32) × (Int32 → Int32) × (Int32 → Int32) × (Int32 → Int32) × (Int32 → Int32) × Int32 × Nat × Int32 × Int32 × Int32 := (if (rX7_letterAt tl ax ty) = 102 then (if (rX1_readNumbers tl rn 3 ty (ax + 1)).1 = true then (if (rX2_setFerry_7 wa be pr (((rX1_readNumbers tl rn 3 ty (ax + 1)).2.1) 0) (((rX1_readNumbers tl rn 3 ty (ax + 1)).2.1) 1) (((rX1_readNumbers tl rn 3 ty (ax + 1)).2.1) 2)).1 = true then (true, ((rX1_readNumbers tl rn 3 ty (ax + 1)).2.1), (rX1_readNumbers tl rn 3 ty (ax + 1)).2.2, ki, ag, co, pa, me, so, sz, ((rX2_setFerry_7 wa be pr (((rX1_readNumbers tl rn 3 ty (ax + 1)).2.1) 0) (((rX1_readNumbers tl rn 3 ty (ax + 1)).2.1) 1) (((rX1_readNumbers tl rn 3 ty (ax + 1)).2.1) 2)).2.1), ((rX2_setFerry_7 wa be pr (((rX1_readNumbers tl rn 3 ty (ax + 1)).2.1) 0) (((rX1_readNumbers tl rn 3 ty (ax + 1)).2.1) 1) (((rX1_readNumbers tl rn 3 ty (ax + 1)).2.1) 2)).2.2.1), ((rX2_setFerry_7 wa be pr (((rX1_readNumbers tl rn 3 ty (ax + 1)).2.1) 0) (((rX1_readNumbers tl rn 3 ty (ax + 1)).2.1) 1) (((rX1_readNumbers tl rn 3 ty (ax + 1)).2.1) 2)).2.2.2)) else (false, ((rX1_readNumbers tl rn 3 ty (ax + 1)).2.1), (rX1_readNumbers tl rn 3 ty (ax + 1)).2.2, ki, ag, co, pa, me, so, sz, ((rX2_setFerry_7 wa be pr (((rX1_readNumbers tl rn 3 ty (ax + 1)).2.1) 0) (((rX1_readNumbers tl rn 3 ty (ax + 1)).2.1) 1) (((rX1_readNumbers tl rn 3 ty (ax + 1)).2.1) 2)).2.1), ((rX2_setFerry_7 wa be pr (((rX1_readNumbers tl rn 3 ty (ax + 1)).2.1) 0) (((rX1_readNumbers tl rn 3 ty (ax + 1)).2.1) 1) (((rX1_readNumbers tl rn 3 ty (ax + 1)).2.1) 2)).2.2.1), ((rX2_setFerry_7 wa be pr (((rX1_readNumbers tl rn 3 ty (ax + 1)).2.1) 0) (((rX1_readNumbers tl rn 3 ty (ax + 1)).2.1) 1) (((rX1_readNumbers tl rn 3 ty (ax + 1)).2.1) 2)).2.2.2))) else (false, ((rX1_readNumbers tl rn 3 ty (ax + 1)).2.1), (rX1_readNumbers tl rn 3 ty (ax + 1)).2.2, ki, ag, co, pa, me, so, sz, wa, be, pr)) else (if (rX7_letterAt tl ax ty) = 112 then (if (rX1_readNumbers tl rn 4 ty (ax + 1)).1 = true then (if (rX2_addPerson_7 ki ag co pa me so (((rX1_readNumbers tl rn 4 ty (ax + 1)).2.1) 0) (((rX1_readNumbers tl rn 4 ty (ax + 1)).2.1) 1) (((rX1_readNumbers tl rn 4 ty (ax + 1)).2.1) 2) (((rX1_readNumbers tl rn 4 ty (ax + 1)).2.1) 3) sz).1 = true then (true, ((rX1_readNumbers tl rn 4 ty (ax + 1)).2.1), (rX1_readNumbers tl rn 4 ty (ax + 1)).2.2, ((rX2_addPerson_7 ki ag co pa me so (((rX1_readNumbers tl rn 4 ty (ax + 1)).2.1) 0) (((rX1_readNumbers tl rn 4 ty (ax + 1)).2.1) 1) (((rX1_readNumbers tl rn 4 ty (ax + 1)).2.1) 2) (((rX1_readNumbers tl rn 4 ty (ax + 1)).2.1) 3) sz).2.1), ((rX2_addPerson_7 ki ag co pa me so (((rX1_readNumbers tl rn 4 ty (ax + 1)).2.1) 0) (((rX1_readNumbers tl rn 4 ty (ax + 1)).2.1) 1) (((rX1_readNumbers tl rn 4 ty (ax + 1)).2.1) 2) (((rX1_readNumbers tl rn 4 ty (ax + 1)).2.1) 3) sz).2.2.1), ((rX2_addPerson_7 ki ag co pa me so (((rX1_readNumbers tl rn 4 ty (ax + 1)).2.1) 0) (((rX1_readNumbers tl rn 4 ty (ax + 1)).2.1) 1) (((rX1_readNumbers tl rn 4 ty (ax + 1)).2.1) 2) (((rX1_readNumbers tl rn 4 ty (ax + 1)).2.1) 3) sz).2.2.2.1), ((rX2_addPerson_7 ki ag co pa me so (((rX1_readNumbers tl rn 4 ty (ax + 1)).2.1) 0) (((rX1_readNumbers tl rn 4 ty (ax + 1)).2.1) 1) (((rX1_readNumbers tl rn 4 ty (ax + 1)).2.1) 2) (((rX1_readNumbers tl rn 4 ty (ax + 1)).2.1) 3) sz).2.2.2.2.1), ((rX2_addPerson_7 ki ag co pa me so (((rX1_readNumbers tl rn 4 ty (ax + 1)).2.1) 0) (((rX1_readNumbers tl rn 4 ty (ax + 1)).2.1) 1) (((rX1_readNumbers tl rn 4 ty (ax + 1)).2.1) 2) (((rX1_readNumbers tl rn 4 ty (ax + 1)).2.1) 3) sz).2.2.2.2.2.1), ((rX2_addPerson_7 ki ag co pa me so (((rX1_readNumbers tl rn 4 ty (ax + 1)).2.1) 0) (((rX1_readNumbers tl rn 4 ty (ax + 1)).2.1) 1) (((rX1_readNumbers tl rn 4 ty (ax + 1)).2.1) 2) (((rX1_readNumbers tl rn 4 ty (ax + 1)).2.1) 3) sz).2.2.2.2.2.2.1), (rX2_addPerson_7 ki ag co pa me so (((rX1_readNumbers tl rn 4 ty (ax + 1)).2.1) 0) (((rX1_readNumbers tl rn 4 ty (ax + 1)).2.1) 1) (((rX1_readNumbers tl rn 4 ty (ax + 1)).2.1) 2) (((rX1_readNumbers tl rn 4 ty (ax + 1)).2.1) 3) sz).2.2.2.2.2.2.2, wa, be, pr) else (false, ((rX1_readNumbers tl rn 4 ty (ax + 1)).2.1), (rX1_readNumbers tl rn 4 ty (ax + 1)).2.2, ((rX2_addPerson_7 ki ag co pa me so (((rX1_readNumbers tl rn 4 ty (ax + 1)).2.1) 0) (((rX1_readNumbers tl rn 4 ty (ax + 1)).2.1) 1) (((rX1_readNumbers tl rn 4 ty (ax + 1)).2.1) 2) (((rX1_readNumbers tl rn 4 ty (ax + 1)).2.1) 3) sz).2.1), ((rX2_addPerson_7 ki ag co pa me so (((rX1_readNumbers tl rn 4 ty (ax + 1)).2.1) 0) (((rX1_readNumbers tl rn 4 ty (ax + 1)).2.1) 1) (((rX1_readNumbers tl rn 4 ty (ax + 1)).2.1) 2) (((rX1_readNumbers tl rn 4 ty (ax + 1)).2.1) 3) sz).2.2.1), ((rX2_addPerson_7 ki ag co pa me so (((rX1_readNumbers tl rn 4 ty (ax + 1)).2.1) 0) (((rX1_readNumbers tl rn 4 ty (ax + 1)).2.1) 1) (((rX1_readNumbers tl rn 4 ty (ax + 1)).2.1) 2) (((rX1_readNumbers tl rn 4 ty (ax + 1)).2.1) 3) sz).2.2.2.1), ((rX2_addPerson_7 ki ag co pa me so (((rX1_readNumbers tl rn 4 ty (ax + 1)).2.1) 0) (((rX1_readNumbers tl rn 4 ty (ax + 1)).2.1) 1) (((rX1_readNumbers tl rn 4 ty (ax + 1)).2.1) 2) (((rX1_readNumbers tl rn 4 ty (ax + 1)).2.1) 3) sz).2.2.2.2.1), ((rX2_addPerson_7 ki ag co pa me so (((rX1_readNumbers tl rn 4 ty (ax + 1)).2.1) 0) (((rX1_readNumbers tl rn 4 ty (ax + 1)).2.1) 1) (((rX1_readNumbers tl rn 4 ty (ax + 1)).2.1) 2) (((rX1_readNumbers tl rn 4 ty (ax + 1)).2.1) 3) sz).2.2.2.2.2.1), ((rX2_addPerson_7 ki ag co pa me so (((rX1_readNumbers tl rn 4 ty (ax + 1)).2.1) 0) (((rX1_readNumbers tl rn 4 ty (ax + 1)).2.1) 1) (((rX1_readNumbers tl rn 4 ty (ax + 1)).2.1) 2) (((rX1_readNumbers tl rn 4 ty (ax + 1)).2.1) 3) sz).2.2.2.2.2.2.1), (rX2_addPerson_7 ki ag co pa me so (((rX1_readNumbers tl rn 4 ty (ax + 1)).2.1) 0) (((rX1_readNumbers tl rn 4 ty (ax + 1)).2.1) 1) (((rX1_readNumbers tl rn 4 ty (ax + 1)).2.1) 2) (((rX1_readNumbers tl rn 4 ty (ax + 1)).2.1) 3) sz).2.2.2.2.2.2.2, wa, be, pr)) else (false, ((rX1_readNumbers tl rn 4 ty (ax + 1)).2.1), (rX1_readNumbers tl rn 4 ty (ax + 1)).2.2, ki, ag, co, pa, me, so, sz, wa, be, pr)) else (false, rn, ax + 1, ki, ag, co, pa, me, so, sz, wa, be, pr)))
set_option maxRecDepth 100000 in
set_option maxHeartbeats 4000000 in
theorem MX1_readItem_7 {w : gW} {al : Bool} {tl rn ki ag co pa me dki dag dco dpa dme nt tnt os og cs mo le se ab : Int32 → Int32} {so wa be pr dso drs dwa dbe dpr nm nb nc nd ns np tnm tnb tnc tnd tns tnp ph kh oh pk pc lf cu cd : Int32} {pf : Nat → Option Nat} {pst kst : Nat → gS} {ty ax sz : Nat} (hty : ty ≤ 200) (hax : ax < 700) (hs : sz ≤ 9)  : M w gT0 al mX1_readItem 0 0 (hC tl (nI ty) rn (nI ax) ki ag co pa me so (nI sz) wa be pr dki dag dco dpa dme dso drs dwa dbe dpr nt nm nb nc nd ns np tnt tnm tnb tnc tnd tns tnp pf ph pst kh kst os og oh cs mo le se pk pc lf ab cu cd) [.ref 4, .ref 7] (gEq (hC tl (nI ty) ((rX1_readItem_7 tl rn ki ag co pa me so wa be pr ty ax sz).2.1) (nI ((rX1_readItem_7 tl rn ki ag co pa me so wa be pr ty ax sz).2.2.1)) ((rX1_readItem_7 tl rn ki ag co pa me so wa be pr ty ax sz).2.2.2.1) ((rX1_readItem_7 tl rn ki ag co pa me so wa be pr ty ax sz).2.2.2.2.1) ((rX1_readItem_7 tl rn ki ag co pa me so wa be pr ty ax sz).2.2.2.2.2.1) ((rX1_readItem_7 tl rn ki ag co pa me so wa be pr ty ax sz).2.2.2.2.2.2.1) ((rX1_readItem_7 tl rn ki ag co pa me so wa be pr ty ax sz).2.2.2.2.2.2.2.1) ((rX1_readItem_7 tl rn ki ag co pa me so wa be pr ty ax sz).2.2.2.2.2.2.2.2.1) (nI ((rX1_readItem_7 tl rn ki ag co pa me so wa be pr ty ax sz).2.2.2.2.2.2.2.2.2.1)) ((rX1_readItem_7 tl rn ki ag co pa me so wa be pr ty ax sz).2.2.2.2.2.2.2.2.2.2.1) ((rX1_readItem_7 tl rn ki ag co pa me so wa be pr ty ax sz).2.2.2.2.2.2.2.2.2.2.2.1) ((rX1_readItem_7 tl rn ki ag co pa me so wa be pr ty ax sz).2.2.2.2.2.2.2.2.2.2.2.2) dki dag dco dpa dme dso drs dwa dbe dpr nt nm nb nc nd ns np tnt tnm tnb tnc tnd tns tnp pf ph pst kh kst os og oh cs mo le se pk pc lf ab cu cd) (some (.int (gB (rX1_readItem_7 tl rn ki ag co pa me so wa be pr ty ax sz).1)))) := by
  refine M.of (L0 := [.ref 4, .ref 7, gF]) (by decide +kernel) (Nat.le_of_ble_eq_true rfl) rfl ?_
  refine g_aload_n dX1_readItem_0 rfl 1 rfl rfl ?_
  refine g_get (v := .ref 1) dX1_readItem_1 4 rfl lX1_20 rfl rfl ?_
  refine g_aload_n dX1_readItem_4 rfl 5 rfl rfl ?_
  refine g_get (v := .int (nI ax)) dX1_readItem_5 8 rfl lX1_29 rfl rfl ?_
  refine g_cVv (as := [.int (nI ax)]) (st := []) dX1_readItem_8 11 rfl kX1_43 ⟨Nat.le_of_ble_eq_true rfl, Nat.le_of_ble_eq_true rfl⟩ (MX7_letterAt (ty := ty) ax (by omega) (by omega)) rfl rfl rfl rfl (Nat.le_of_ble_eq_true rfl) (Nat.le_refl _) (Nat.le_refl _) ?_
  refine g_istore2 dX1_readItem_11 12 rfl (by decide) rfl ?_
  refine g_aload_n dX1_readItem_12 rfl 13 rfl rfl ?_
  refine g_dup dX1_readItem_13 14 rfl rfl ?_
  refine g_get (v := .int (nI ax)) dX1_readItem_14 17 rfl lX1_29 rfl rfl ?_
  refine g_iconst 1 dX1_readItem_17 18 rfl (by decide) ?_
  refine g_iadd' dX1_readItem_18 19 rfl (nI (ax + 1)) (nI_add _ 1) ?_
  refine g_put dX1_readItem_19 22 rfl lX1_29 wrX1 rfl rfl rfl rfl rfl (Nat.le_of_ble_eq_true rfl) (h' := (hC tl (nI ty) rn (nI (ax + 1)) ki ag co pa me so (nI sz) wa be pr dki dag dco dpa dme dso drs dwa dbe dpr nt nm nb nc nd ns np tnt tnm tnb tnc tnd tns tnp pf ph pst kh kst os og oh cs mo le se pk pc lf ab cu cd)) rfl ?_
  refine g_iload_n dX1_readItem_22 rfl 23 rfl rfl ?_
  refine g_bipush 102 dX1_readItem_23 25 rfl (by decide) ?_
  refine g_icmp_ne dX1_readItem_25 73 rfl 28 rfl (fun c1 => ?_) (fun c1 => ?_)
  · refine g_iload_n dX1_readItem_73 rfl 74 rfl rfl ?_
    refine g_bipush 112 dX1_readItem_74 76 rfl (by decide) ?_
    refine g_icmp_ne dX1_readItem_76 132 rfl 79 rfl (fun c4 => ?_) (fun c4 => ?_)
    · refine g_iconst 0 dX1_readItem_132 133 rfl (by decide) ?_
      refine g_ireturn dX1_readItem_133 rfl rfl (Nat.le_refl _) (Nat.le_refl _) ?_
      have e : (rX1_readItem_7 tl rn ki ag co pa me so wa be pr ty ax sz) = (false, rn, ax + 1, ki, ag, co, pa, me, so, sz, wa, be, pr) := by rw [rX1_readItem_7, if_neg c1, if_neg c4]
      rw [e]
      exact ⟨rfl, rfl⟩
    · refine g_aload_n dX1_readItem_79 rfl 80 rfl rfl ?_
      refine g_iconst 4 dX1_readItem_80 81 rfl (by decide) ?_
      refine g_cVv (as := [.int 4]) (st := []) dX1_readItem_81 84 rfl kX1_47 ⟨Nat.le_of_ble_eq_true rfl, Nat.le_of_ble_eq_true rfl⟩ (MX1_readNumbers (ty := ty) (ax := ax + 1) 4 (by omega) (by omega) (by decide)) rfl rfl rfl rfl (Nat.le_of_ble_eq_true rfl) (Nat.le_refl _) (Nat.le_refl _) ?_
      refine g_if_eq dX1_readItem_84 130 rfl 87 rfl (fun c5 => ?_) (fun c5 => ?_)
      · replace c5 := gB_f c5
        refine g_iconst 0 dX1_readItem_130 131 rfl (by decide) ?_
        refine g_ireturn dX1_readItem_131 rfl rfl (Nat.le_refl _) (Nat.le_refl _) ?_
        have e : (rX1_readItem_7 tl rn ki ag co pa me so wa be pr ty ax sz) = (false, ((rX1_readNumbers tl rn 4 ty (ax + 1)).2.1), (rX1_readNumbers tl rn 4 ty (ax + 1)).2.2, ki, ag, co, pa, me, so, sz, wa, be, pr) := by rw [rX1_readItem_7, if_neg c1, if_pos c4, if_neg c5]
        rw [e]
        exact ⟨rfl, rfl⟩
      · replace c5 := gB_t c5
        refine g_aload_n dX1_readItem_87 rfl 88 rfl rfl ?_
        refine g_aload_n dX1_readItem_88 rfl 89 rfl rfl ?_
        refine g_get (v := .ref 5) dX1_readItem_89 92 rfl lX1_16 rfl rfl ?_
        refine g_iconst 0 dX1_readItem_92 93 rfl (by decide) ?_
        refine g_cVv (as := [.int 0]) (st := [.ref 7]) dX1_readItem_93 96 rfl kX1_51 ⟨Nat.le_of_ble_eq_true rfl, Nat.le_of_ble_eq_true rfl⟩ (MX3_atN (k := 5) (j := 6) (N := 4) (f := ((rX1_readNumbers tl rn 4 ty (ax + 1)).2.1)) rfl rfl (by decide) 0 (by omega)) rfl rfl rfl rfl (Nat.le_of_ble_eq_true rfl) (Nat.le_refl _) (Nat.le_refl _) ?_
        refine g_aload_n dX1_readItem_96 rfl 97 rfl rfl ?_
        refine g_get (v := .ref 5) dX1_readItem_97 100 rfl lX1_16 rfl rfl ?_
        refine g_iconst 1 dX1_readItem_100 101 rfl (by decide) ?_
        refine g_cVv (as := [.int 1]) (st := [.int (((rX1_readNumbers tl rn 4 ty (ax + 1)).2.1) 0), .ref 7]) dX1_readItem_101 104 rfl kX1_51 ⟨Nat.le_of_ble_eq_true rfl, Nat.le_of_ble_eq_true rfl⟩ (MX3_atN (k := 5) (j := 6) (N := 4) (f := ((rX1_readNumbers tl rn 4 ty (ax + 1)).2.1)) rfl rfl (by decide) 1 (by omega)) rfl rfl rfl rfl (Nat.le_of_ble_eq_true rfl) (Nat.le_refl _) (Nat.le_refl _) ?_
        refine g_aload_n dX1_readItem_104 rfl 105 rfl rfl ?_
        refine g_get (v := .ref 5) dX1_readItem_105 108 rfl lX1_16 rfl rfl ?_
        refine g_iconst 2 dX1_readItem_108 109 rfl (by decide) ?_
        refine g_cVv (as := [.int 2]) (st := [.int (((rX1_readNumbers tl rn 4 ty (ax + 1)).2.1) 1), .int (((rX1_readNumbers tl rn 4 ty (ax + 1)).2.1) 0), .ref 7]) dX1_readItem_109 112 rfl kX1_51 ⟨Nat.le_of_ble_eq_true rfl, Nat.le_of_ble_eq_true rfl⟩ (MX3_atN (k := 5) (j := 6) (N := 4) (f := ((rX1_readNumbers tl rn 4 ty (ax + 1)).2.1)) rfl rfl (by decide) 2 (by omega)) rfl rfl rfl rfl (Nat.le_of_ble_eq_true rfl) (Nat.le_refl _) (Nat.le_refl _) ?_
        refine g_aload_n dX1_readItem_112 rfl 113 rfl rfl ?_
        refine g_get (v := .ref 5) dX1_readItem_113 116 rfl lX1_16 rfl rfl ?_
        refine g_iconst 3 dX1_readItem_116 117 rfl (by decide) ?_
        refine g_cVv (as := [.int 3]) (st := [.int (((rX1_readNumbers tl rn 4 ty (ax + 1)).2.1) 2), .int (((rX1_readNumbers tl rn 4 ty (ax + 1)).2.1) 1), .int (((rX1_readNumbers tl rn 4 ty (ax + 1)).2.1) 0), .ref 7]) dX1_readItem_117 120 rfl kX1_51 ⟨Nat.le_of_ble_eq_true rfl, Nat.le_of_ble_eq_true rfl⟩ (MX3_atN (k := 5) (j := 6) (N := 4) (f := ((rX1_readNumbers tl rn 4 ty (ax + 1)).2.1)) rfl rfl (by decide) 3 (by omega)) rfl rfl rfl rfl (Nat.le_of_ble_eq_true rfl) (Nat.le_refl _) (Nat.le_refl _) ?_
        refine g_cVv (as := [.int (((rX1_readNumbers tl rn 4 ty (ax + 1)).2.1) 0), .int (((rX1_readNumbers tl rn 4 ty (ax + 1)).2.1) 1), .int (((rX1_readNumbers tl rn 4 ty (ax + 1)).2.1) 2), .int (((rX1_readNumbers tl rn 4 ty (ax + 1)).2.1) 3)]) (st := []) dX1_readItem_120 123 rfl kX1_58 ⟨Nat.le_of_ble_eq_true rfl, Nat.le_of_ble_eq_true rfl⟩ (MX2_addPerson_7 (sz := sz) (((rX1_readNumbers tl rn 4 ty (ax + 1)).2.1) 0) (((rX1_readNumbers tl rn 4 ty (ax + 1)).2.1) 1) (((rX1_readNumbers tl rn 4 ty (ax + 1)).2.1) 2) (((rX1_readNumbers tl rn 4 ty (ax + 1)).2.1) 3) (by omega)) rfl rfl rfl rfl (Nat.le_of_ble_eq_true rfl) (Nat.le_refl _) (Nat.le_refl _) ?_
        refine g_if_eq dX1_readItem_123 130 rfl 126 rfl (fun c6 => ?_) (fun c6 => ?_)
        · replace c6 := gB_f c6
          refine g_iconst 0 dX1_readItem_130 131 rfl (by decide) ?_
          refine g_ireturn dX1_readItem_131 rfl rfl (Nat.le_refl _) (Nat.le_refl _) ?_
          have e : (rX1_readItem_7 tl rn ki ag co pa me so wa be pr ty ax sz) = (false, ((rX1_readNumbers tl rn 4 ty (ax + 1)).2.1), (rX1_readNumbers tl rn 4 ty (ax + 1)).2.2, ((rX2_addPerson_7 ki ag co pa me so (((rX1_readNumbers tl rn 4 ty (ax + 1)).2.1) 0) (((rX1_readNumbers tl rn 4 ty (ax + 1)).2.1) 1) (((rX1_readNumbers tl rn 4 ty (ax + 1)).2.1) 2) (((rX1_readNumbers tl rn 4 ty (ax + 1)).2.1) 3) sz).2.1), ((rX2_addPerson_7 ki ag co pa me so (((rX1_readNumbers tl rn 4 ty (ax + 1)).2.1) 0) (((rX1_readNumbers tl rn 4 ty (ax + 1)).2.1) 1) (((rX1_readNumbers tl rn 4 ty (ax + 1)).2.1) 2) (((rX1_readNumbers tl rn 4 ty (ax + 1)).2.1) 3) sz).2.2.1), ((rX2_addPerson_7 ki ag co pa me so (((rX1_readNumbers tl rn 4 ty (ax + 1)).2.1) 0) (((rX1_readNumbers tl rn 4 ty (ax + 1)).2.1) 1) (((rX1_readNumbers tl rn 4 ty (ax + 1)).2.1) 2) (((rX1_readNumbers tl rn 4 ty (ax + 1)).2.1) 3) sz).2.2.2.1), ((rX2_addPerson_7 ki ag co pa me so (((rX1_readNumbers tl rn 4 ty (ax + 1)).2.1) 0) (((rX1_readNumbers tl rn 4 ty (ax + 1)).2.1) 1) (((rX1_readNumbers tl rn 4 ty (ax + 1)).2.1) 2) (((rX1_readNumbers tl rn 4 ty (ax + 1)).2.1) 3) sz).2.2.2.2.1), ((rX2_addPerson_7 ki ag co pa me so (((rX1_readNumbers tl rn 4 ty (ax + 1)).2.1) 0) (((rX1_readNumbers tl rn 4 ty (ax + 1)).2.1) 1) (((rX1_readNumbers tl rn 4 ty (ax + 1)).2.1) 2) (((rX1_readNumbers tl rn 4 ty (ax + 1)).2.1) 3) sz).2.2.2.2.2.1), ((rX2_addPerson_7 ki ag co pa me so (((rX1_readNumbers tl rn 4 ty (ax + 1)).2.1) 0) (((rX1_readNumbers tl rn 4 ty (ax + 1)).2.1) 1) (((rX1_readNumbers tl rn 4 ty (ax + 1)).2.1) 2) (((rX1_readNumbers tl rn 4 ty (ax + 1)).2.1) 3) sz).2.2.2.2.2.2.1), (rX2_addPerson_7 ki ag co pa me so (((rX1_readNumbers tl rn 4 ty (ax + 1)).2.1) 0) (((rX1_readNumbers tl rn 4 ty (ax + 1)).2.1) 1) (((rX1_readNumbers tl rn 4 ty (ax + 1)).2.1) 2) (((rX1_readNumbers tl rn 4 ty (ax + 1)).2.1) 3) sz).2.2.2.2.2.2.2, wa, be, pr) := by rw [rX1_readItem_7, if_neg c1, if_pos c4, if_pos c5, if_neg c6]
          rw [e]
          exact ⟨rfl, rfl⟩
        · replace c6 := gB_t c6
          refine g_iconst 1 dX1_readItem_126 127 rfl (by decide) ?_
          refine g_goto dX1_readItem_127 131 rfl ?_
          refine g_ireturn dX1_readItem_131 rfl rfl (Nat.le_refl _) (Nat.le_refl _) ?_
          have e : (rX1_readItem_7 tl rn ki ag co pa me so wa be pr ty ax sz) = (true, ((rX1_readNumbers tl rn 4 ty (ax + 1)).2.1), (rX1_readNumbers tl rn 4 ty (ax + 1)).2.2, ((rX2_addPerson_7 ki ag co pa me so (((rX1_readNumbers tl rn 4 ty (ax + 1)).2.1) 0) (((rX1_readNumbers tl rn 4 ty (ax + 1)).2.1) 1) (((rX1_readNumbers tl rn 4 ty (ax + 1)).2.1) 2) (((rX1_readNumbers tl rn 4 ty (ax + 1)).2.1) 3) sz).2.1), ((rX2_addPerson_7 ki ag co pa me so (((rX1_readNumbers tl rn 4 ty (ax + 1)).2.1) 0) (((rX1_readNumbers tl rn 4 ty (ax + 1)).2.1) 1) (((rX1_readNumbers tl rn 4 ty (ax + 1)).2.1) 2) (((rX1_readNumbers tl rn 4 ty (ax + 1)).2.1) 3) sz).2.2.1), ((rX2_addPerson_7 ki ag co pa me so (((rX1_readNumbers tl rn 4 ty (ax + 1)).2.1) 0) (((rX1_readNumbers tl rn 4 ty (ax + 1)).2.1) 1) (((rX1_readNumbers tl rn 4 ty (ax + 1)).2.1) 2) (((rX1_readNumbers tl rn 4 ty (ax + 1)).2.1) 3) sz).2.2.2.1), ((rX2_addPerson_7 ki ag co pa me so (((rX1_readNumbers tl rn 4 ty (ax + 1)).2.1) 0) (((rX1_readNumbers tl rn 4 ty (ax + 1)).2.1) 1) (((rX1_readNumbers tl rn 4 ty (ax + 1)).2.1) 2) (((rX1_readNumbers tl rn 4 ty (ax + 1)).2.1) 3) sz).2.2.2.2.1), ((rX2_addPerson_7 ki ag co pa me so (((rX1_readNumbers tl rn 4 ty (ax + 1)).2.1) 0) (((rX1_readNumbers tl rn 4 ty (ax + 1)).2.1) 1) (((rX1_readNumbers tl rn 4 ty (ax + 1)).2.1) 2) (((rX1_readNumbers tl rn 4 ty (ax + 1)).2.1) 3) sz).2.2.2.2.2.1), ((rX2_addPerson_7 ki ag co pa me so (((rX1_readNumbers tl rn 4 ty (ax + 1)).2.1) 0) (((rX1_readNumbers tl rn 4 ty (ax + 1)).2.1) 1) (((rX1_readNumbers tl rn 4 ty (ax + 1)).2.1) 2) (((rX1_readNumbers tl rn 4 ty (ax + 1)).2.1) 3) sz).2.2.2.2.2.2.1), (rX2_addPerson_7 ki ag co pa me so (((rX1_readNumbers tl rn 4 ty (ax + 1)).2.1) 0) (((rX1_readNumbers tl rn 4 ty (ax + 1)).2.1) 1) (((rX1_readNumbers tl rn 4 ty (ax + 1)).2.1) 2) (((rX1_readNumbers tl rn 4 ty (ax + 1)).2.1) 3) sz).2.2.2.2.2.2.2, wa, be, pr) := by rw [rX1_readItem_7, if_neg c1, if_pos c4, if_pos c5, if_pos c6]
          rw [e]
          exact ⟨rfl, rfl⟩
  · refine g_aload_n dX1_readItem_28 rfl 29 rfl rfl ?_
    refine g_iconst 3 dX1_readItem_29 30 rfl (by decide) ?_
    refine g_cVv (as := [.int 3]) (st := []) dX1_readItem_30 33 rfl kX1_47 ⟨Nat.le_of_ble_eq_true rfl, Nat.le_of_ble_eq_true rfl⟩ (MX1_readNumbers (ty := ty) (ax := ax + 1) 3 (by omega) (by omega) (by decide)) rfl rfl rfl rfl (Nat.le_of_ble_eq_true rfl) (Nat.le_refl _) (Nat.le_refl _) ?_
    refine g_if_eq dX1_readItem_33 71 rfl 36 rfl (fun c2 => ?_) (fun c2 => ?_)
    · replace c2 := gB_f c2
      refine g_iconst 0 dX1_readItem_71 72 rfl (by decide) ?_
      refine g_ireturn dX1_readItem_72 rfl rfl (Nat.le_refl _) (Nat.le_refl _) ?_
      have e : (rX1_readItem_7 tl rn ki ag co pa me so wa be pr ty ax sz) = (false, ((rX1_readNumbers tl rn 3 ty (ax + 1)).2.1), (rX1_readNumbers tl rn 3 ty (ax + 1)).2.2, ki, ag, co, pa, me, so, sz, wa, be, pr) := by rw [rX1_readItem_7, if_pos c1, if_neg c2]
      rw [e]
      exact ⟨rfl, rfl⟩
    · replace c2 := gB_t c2
      refine g_aload_n dX1_readItem_36 rfl 37 rfl rfl ?_
      refine g_aload_n dX1_readItem_37 rfl 38 rfl rfl ?_
      refine g_get (v := .ref 5) dX1_readItem_38 41 rfl lX1_16 rfl rfl ?_
      refine g_iconst 0 dX1_readItem_41 42 rfl (by decide) ?_
      refine g_cVv (as := [.int 0]) (st := [.ref 7]) dX1_readItem_42 45 rfl kX1_51 ⟨Nat.le_of_ble_eq_true rfl, Nat.le_of_ble_eq_true rfl⟩ (MX3_atN (k := 5) (j := 6) (N := 4) (f := ((rX1_readNumbers tl rn 3 ty (ax + 1)).2.1)) rfl rfl (by decide) 0 (by omega)) rfl rfl rfl rfl (Nat.le_of_ble_eq_true rfl) (Nat.le_refl _) (Nat.le_refl _) ?_
      refine g_aload_n dX1_readItem_45 rfl 46 rfl rfl ?_
      refine g_get (v := .ref 5) dX1_readItem_46 49 rfl lX1_16 rfl rfl ?_
      refine g_iconst 1 dX1_readItem_49 50 rfl (by decide) ?_
      refine g_cVv (as := [.int 1]) (st := [.int (((rX1_readNumbers tl rn 3 ty (ax + 1)).2.1) 0), .ref 7]) dX1_readItem_50 53 rfl kX1_51 ⟨Nat.le_of_ble_eq_true rfl, Nat.le_of_ble_eq_true rfl⟩ (MX3_atN (k := 5) (j := 6) (N := 4) (f := ((rX1_readNumbers tl rn 3 ty (ax + 1)).2.1)) rfl rfl (by decide) 1 (by omega)) rfl rfl rfl rfl (Nat.le_of_ble_eq_true rfl) (Nat.le_refl _) (Nat.le_refl _) ?_
      refine g_aload_n dX1_readItem_53 rfl 54 rfl rfl ?_
      refine g_get (v := .ref 5) dX1_readItem_54 57 rfl lX1_16 rfl rfl ?_
      refine g_iconst 2 dX1_readItem_57 58 rfl (by decide) ?_
      refine g_cVv (as := [.int 2]) (st := [.int (((rX1_readNumbers tl rn 3 ty (ax + 1)).2.1) 1), .int (((rX1_readNumbers tl rn 3 ty (ax + 1)).2.1) 0), .ref 7]) dX1_readItem_58 61 rfl kX1_51 ⟨Nat.le_of_ble_eq_true rfl, Nat.le_of_ble_eq_true rfl⟩ (MX3_atN (k := 5) (j := 6) (N := 4) (f := ((rX1_readNumbers tl rn 3 ty (ax + 1)).2.1)) rfl rfl (by decide) 2 (by omega)) rfl rfl rfl rfl (Nat.le_of_ble_eq_true rfl) (Nat.le_refl _) (Nat.le_refl _) ?_
      refine g_cVv (as := [.int (((rX1_readNumbers tl rn 3 ty (ax + 1)).2.1) 0), .int (((rX1_readNumbers tl rn 3 ty (ax + 1)).2.1) 1), .int (((rX1_readNumbers tl rn 3 ty (ax + 1)).2.1) 2)]) (st := []) dX1_readItem_61 64 rfl kX1_54 ⟨Nat.le_of_ble_eq_true rfl, Nat.le_of_ble_eq_true rfl⟩ (MX2_setFerry_7 (((rX1_readNumbers tl rn 3 ty (ax + 1)).2.1) 0) (((rX1_readNumbers tl rn 3 ty (ax + 1)).2.1) 1) (((rX1_readNumbers tl rn 3 ty (ax + 1)).2.1) 2)) rfl rfl rfl rfl (Nat.le_of_ble_eq_true rfl) (Nat.le_refl _) (Nat.le_refl _) ?_
      refine g_if_eq dX1_readItem_64 71 rfl 67 rfl (fun c3 => ?_) (fun c3 => ?_)
      · replace c3 := gB_f c3
        refine g_iconst 0 dX1_readItem_71 72 rfl (by decide) ?_
        refine g_ireturn dX1_readItem_72 rfl rfl (Nat.le_refl _) (Nat.le_refl _) ?_
        have e : (rX1_readItem_7 tl rn ki ag co pa me so wa be pr ty ax sz) = (false, ((rX1_readNumbers tl rn 3 ty (ax + 1)).2.1), (rX1_readNumbers tl rn 3 ty (ax + 1)).2.2, ki, ag, co, pa, me, so, sz, ((rX2_setFerry_7 wa be pr (((rX1_readNumbers tl rn 3 ty (ax + 1)).2.1) 0) (((rX1_readNumbers tl rn 3 ty (ax + 1)).2.1) 1) (((rX1_readNumbers tl rn 3 ty (ax + 1)).2.1) 2)).2.1), ((rX2_setFerry_7 wa be pr (((rX1_readNumbers tl rn 3 ty (ax + 1)).2.1) 0) (((rX1_readNumbers tl rn 3 ty (ax + 1)).2.1) 1) (((rX1_readNumbers tl rn 3 ty (ax + 1)).2.1) 2)).2.2.1), ((rX2_setFerry_7 wa be pr (((rX1_readNumbers tl rn 3 ty (ax + 1)).2.1) 0) (((rX1_readNumbers tl rn 3 ty (ax + 1)).2.1) 1) (((rX1_readNumbers tl rn 3 ty (ax + 1)).2.1) 2)).2.2.2)) := by rw [rX1_readItem_7, if_pos c1, if_pos c2, if_neg c3]
        rw [e]
        exact ⟨rfl, rfl⟩
      · replace c3 := gB_t c3
        refine g_iconst 1 dX1_readItem_67 68 rfl (by decide) ?_
        refine g_goto dX1_readItem_68 72 rfl ?_
        refine g_ireturn dX1_readItem_72 rfl rfl (Nat.le_refl _) (Nat.le_refl _) ?_
        have e : (rX1_readItem_7 tl rn ki ag co pa me so wa be pr ty ax sz) = (true, ((rX1_readNumbers tl rn 3 ty (ax + 1)).2.1), (rX1_readNumbers tl rn 3 ty (ax + 1)).2.2, ki, ag, co, pa, me, so, sz, ((rX2_setFerry_7 wa be pr (((rX1_readNumbers tl rn 3 ty (ax + 1)).2.1) 0) (((rX1_readNumbers tl rn 3 ty (ax + 1)).2.1) 1) (((rX1_readNumbers tl rn 3 ty (ax + 1)).2.1) 2)).2.1), ((rX2_setFerry_7 wa be pr (((rX1_readNumbers tl rn 3 ty (ax + 1)).2.1) 0) (((rX1_readNumbers tl rn 3 ty (ax + 1)).2.1) 1) (((rX1_readNumbers tl rn 3 ty (ax + 1)).2.1) 2)).2.2.1), ((rX2_setFerry_7 wa be pr (((rX1_readNumbers tl rn 3 ty (ax + 1)).2.1) 0) (((rX1_readNumbers tl rn 3 ty (ax + 1)).2.1) 1) (((rX1_readNumbers tl rn 3 ty (ax + 1)).2.1) 2)).2.2.2)) := by rw [rX1_readItem_7, if_pos c1, if_pos c2, if_pos c3]
        rw [e]
        exact ⟨rfl, rfl⟩
set_option maxRecDepth 100000 in
set_option maxHeartbeats 4000000 in
theorem MX1_readItem_18 {w : gW} {al : Bool} {tl rn ki ag co pa me dki dag dco dpa dme nt tnt os og cs mo le se ab : Int32 → Int32} {so rs wa be pr dso dwa dbe dpr nm nb nc nd ns np tnm tnb tnc tnd tns tnp ph kh oh pk pc lf cu cd : Int32} {pf : Nat → Option Nat} {pst kst : Nat → gS} {ty ax sz : Nat} (hty : ty ≤ 200) (hax : ax < 700) (hs : sz ≤ 9)  : M w gT0 al mX1_readItem 0 0 (hC tl (nI ty) rn (nI ax) ki ag co pa me so rs wa be pr dki dag dco dpa dme dso (nI sz) dwa dbe dpr nt nm nb nc nd ns np tnt tnm tnb tnc tnd tns tnp pf ph pst kh kst os og oh cs mo le se pk pc lf ab cu cd) [.ref 4, .ref 18] (gEq (hC tl (nI ty) ((rX1_readItem_7 tl rn dki dag dco dpa dme dso dwa dbe dpr ty ax sz).2.1) (nI ((rX1_readItem_7 tl rn dki dag dco dpa dme dso dwa dbe dpr ty ax sz).2.2.1)) ki ag co pa me so rs wa be pr ((rX1_readItem_7 tl rn dki dag dco dpa dme dso dwa dbe dpr ty ax sz).2.2.2.1) ((rX1_readItem_7 tl rn dki dag dco dpa dme dso dwa dbe dpr ty ax sz).2.2.2.2.1) ((rX1_readItem_7 tl rn dki dag dco dpa dme dso dwa dbe dpr ty ax sz).2.2.2.2.2.1) ((rX1_readItem_7 tl rn dki dag dco dpa dme dso dwa dbe dpr ty ax sz).2.2.2.2.2.2.1) ((rX1_readItem_7 tl rn dki dag dco dpa dme dso dwa dbe dpr ty ax sz).2.2.2.2.2.2.2.1) ((rX1_readItem_7 tl rn dki dag dco dpa dme dso dwa dbe dpr ty ax sz).2.2.2.2.2.2.2.2.1) (nI ((rX1_readItem_7 tl rn dki dag dco dpa dme dso dwa dbe dpr ty ax sz).2.2.2.2.2.2.2.2.2.1)) ((rX1_readItem_7 tl rn dki dag dco dpa dme dso dwa dbe dpr ty ax sz).2.2.2.2.2.2.2.2.2.2.1) ((rX1_readItem_7 tl rn dki dag dco dpa dme dso dwa dbe dpr ty ax sz).2.2.2.2.2.2.2.2.2.2.2.1) ((rX1_readItem_7 tl rn dki dag dco dpa dme dso dwa dbe dpr ty ax sz).2.2.2.2.2.2.2.2.2.2.2.2) nt nm nb nc nd ns np tnt tnm tnb tnc tnd tns tnp pf ph pst kh kst os og oh cs mo le se pk pc lf ab cu cd) (some (.int (gB (rX1_readItem_7 tl rn dki dag dco dpa dme dso dwa dbe dpr ty ax sz).1)))) := by
  refine M.of (L0 := [.ref 4, .ref 18, gF]) (by decide +kernel) (Nat.le_of_ble_eq_true rfl) rfl ?_
  refine g_aload_n dX1_readItem_0 rfl 1 rfl rfl ?_
  refine g_get (v := .ref 1) dX1_readItem_1 4 rfl lX1_20 rfl rfl ?_
  refine g_aload_n dX1_readItem_4 rfl 5 rfl rfl ?_
  refine g_get (v := .int (nI ax)) dX1_readItem_5 8 rfl lX1_29 rfl rfl ?_
  refine g_cVv (as := [.int (nI ax)]) (st := []) dX1_readItem_8 11 rfl kX1_43 ⟨Nat.le_of_ble_eq_true rfl, Nat.le_of_ble_eq_true rfl⟩ (MX7_letterAt (ty := ty) ax (by omega) (by omega)) rfl rfl rfl rfl (Nat.le_of_ble_eq_true rfl) (Nat.le_refl _) (Nat.le_refl _) ?_
  refine g_istore2 dX1_readItem_11 12 rfl (by decide) rfl ?_
  refine g_aload_n dX1_readItem_12 rfl 13 rfl rfl ?_
  refine g_dup dX1_readItem_13 14 rfl rfl ?_
  refine g_get (v := .int (nI ax)) dX1_readItem_14 17 rfl lX1_29 rfl rfl ?_
  refine g_iconst 1 dX1_readItem_17 18 rfl (by decide) ?_
  refine g_iadd' dX1_readItem_18 19 rfl (nI (ax + 1)) (nI_add _ 1) ?_
  refine g_put dX1_readItem_19 22 rfl lX1_29 wrX1 rfl rfl rfl rfl rfl (Nat.le_of_ble_eq_true rfl) (h' := (hC tl (nI ty) rn (nI (ax + 1)) ki ag co pa me so rs wa be pr dki dag dco dpa dme dso (nI sz) dwa dbe dpr nt nm nb nc nd ns np tnt tnm tnb tnc tnd tns tnp pf ph pst kh kst os og oh cs mo le se pk pc lf ab cu cd)) rfl ?_
  refine g_iload_n dX1_readItem_22 rfl 23 rfl rfl ?_
  refine g_bipush 102 dX1_readItem_23 25 rfl (by decide) ?_
  refine g_icmp_ne dX1_readItem_25 73 rfl 28 rfl (fun c1 => ?_) (fun c1 => ?_)
  · refine g_iload_n dX1_readItem_73 rfl 74 rfl rfl ?_
    refine g_bipush 112 dX1_readItem_74 76 rfl (by decide) ?_
    refine g_icmp_ne dX1_readItem_76 132 rfl 79 rfl (fun c4 => ?_) (fun c4 => ?_)
    · refine g_iconst 0 dX1_readItem_132 133 rfl (by decide) ?_
      refine g_ireturn dX1_readItem_133 rfl rfl (Nat.le_refl _) (Nat.le_refl _) ?_
      have e : (rX1_readItem_7 tl rn dki dag dco dpa dme dso dwa dbe dpr ty ax sz) = (false, rn, ax + 1, dki, dag, dco, dpa, dme, dso, sz, dwa, dbe, dpr) := by rw [rX1_readItem_7, if_neg c1, if_neg c4]
      rw [e]
      exact ⟨rfl, rfl⟩
    · refine g_aload_n dX1_readItem_79 rfl 80 rfl rfl ?_
      refine g_iconst 4 dX1_readItem_80 81 rfl (by decide) ?_
      refine g_cVv (as := [.int 4]) (st := []) dX1_readItem_81 84 rfl kX1_47 ⟨Nat.le_of_ble_eq_true rfl, Nat.le_of_ble_eq_true rfl⟩ (MX1_readNumbers (ty := ty) (ax := ax + 1) 4 (by omega) (by omega) (by decide)) rfl rfl rfl rfl (Nat.le_of_ble_eq_true rfl) (Nat.le_refl _) (Nat.le_refl _) ?_
      refine g_if_eq dX1_readItem_84 130 rfl 87 rfl (fun c5 => ?_) (fun c5 => ?_)
      · replace c5 := gB_f c5
        refine g_iconst 0 dX1_readItem_130 131 rfl (by decide) ?_
        refine g_ireturn dX1_readItem_131 rfl rfl (Nat.le_refl _) (Nat.le_refl _) ?_
        have e : (rX1_readItem_7 tl rn dki dag dco dpa dme dso dwa dbe dpr ty ax sz) = (false, ((rX1_readNumbers tl rn 4 ty (ax + 1)).2.1), (rX1_readNumbers tl rn 4 ty (ax + 1)).2.2, dki, dag, dco, dpa, dme, dso, sz, dwa, dbe, dpr) := by rw [rX1_readItem_7, if_neg c1, if_pos c4, if_neg c5]
        rw [e]
        exact ⟨rfl, rfl⟩
      · replace c5 := gB_t c5
        refine g_aload_n dX1_readItem_87 rfl 88 rfl rfl ?_
        refine g_aload_n dX1_readItem_88 rfl 89 rfl rfl ?_
        refine g_get (v := .ref 5) dX1_readItem_89 92 rfl lX1_16 rfl rfl ?_
        refine g_iconst 0 dX1_readItem_92 93 rfl (by decide) ?_
        refine g_cVv (as := [.int 0]) (st := [.ref 18]) dX1_readItem_93 96 rfl kX1_51 ⟨Nat.le_of_ble_eq_true rfl, Nat.le_of_ble_eq_true rfl⟩ (MX3_atN (k := 5) (j := 6) (N := 4) (f := ((rX1_readNumbers tl rn 4 ty (ax + 1)).2.1)) rfl rfl (by decide) 0 (by omega)) rfl rfl rfl rfl (Nat.le_of_ble_eq_true rfl) (Nat.le_refl _) (Nat.le_refl _) ?_
        refine g_aload_n dX1_readItem_96 rfl 97 rfl rfl ?_
        refine g_get (v := .ref 5) dX1_readItem_97 100 rfl lX1_16 rfl rfl ?_
        refine g_iconst 1 dX1_readItem_100 101 rfl (by decide) ?_
        refine g_cVv (as := [.int 1]) (st := [.int (((rX1_readNumbers tl rn 4 ty (ax + 1)).2.1) 0), .ref 18]) dX1_readItem_101 104 rfl kX1_51 ⟨Nat.le_of_ble_eq_true rfl, Nat.le_of_ble_eq_true rfl⟩ (MX3_atN (k := 5) (j := 6) (N := 4) (f := ((rX1_readNumbers tl rn 4 ty (ax + 1)).2.1)) rfl rfl (by decide) 1 (by omega)) rfl rfl rfl rfl (Nat.le_of_ble_eq_true rfl) (Nat.le_refl _) (Nat.le_refl _) ?_
        refine g_aload_n dX1_readItem_104 rfl 105 rfl rfl ?_
        refine g_get (v := .ref 5) dX1_readItem_105 108 rfl lX1_16 rfl rfl ?_
        refine g_iconst 2 dX1_readItem_108 109 rfl (by decide) ?_
        refine g_cVv (as := [.int 2]) (st := [.int (((rX1_readNumbers tl rn 4 ty (ax + 1)).2.1) 1), .int (((rX1_readNumbers tl rn 4 ty (ax + 1)).2.1) 0), .ref 18]) dX1_readItem_109 112 rfl kX1_51 ⟨Nat.le_of_ble_eq_true rfl, Nat.le_of_ble_eq_true rfl⟩ (MX3_atN (k := 5) (j := 6) (N := 4) (f := ((rX1_readNumbers tl rn 4 ty (ax + 1)).2.1)) rfl rfl (by decide) 2 (by omega)) rfl rfl rfl rfl (Nat.le_of_ble_eq_true rfl) (Nat.le_refl _) (Nat.le_refl _) ?_
        refine g_aload_n dX1_readItem_112 rfl 113 rfl rfl ?_
        refine g_get (v := .ref 5) dX1_readItem_113 116 rfl lX1_16 rfl rfl ?_
        refine g_iconst 3 dX1_readItem_116 117 rfl (by decide) ?_
        refine g_cVv (as := [.int 3]) (st := [.int (((rX1_readNumbers tl rn 4 ty (ax + 1)).2.1) 2), .int (((rX1_readNumbers tl rn 4 ty (ax + 1)).2.1) 1), .int (((rX1_readNumbers tl rn 4 ty (ax + 1)).2.1) 0), .ref 18]) dX1_readItem_117 120 rfl kX1_51 ⟨Nat.le_of_ble_eq_true rfl, Nat.le_of_ble_eq_true rfl⟩ (MX3_atN (k := 5) (j := 6) (N := 4) (f := ((rX1_readNumbers tl rn 4 ty (ax + 1)).2.1)) rfl rfl (by decide) 3 (by omega)) rfl rfl rfl rfl (Nat.le_of_ble_eq_true rfl) (Nat.le_refl _) (Nat.le_refl _) ?_
        refine g_cVv (as := [.int (((rX1_readNumbers tl rn 4 ty (ax + 1)).2.1) 0), .int (((rX1_readNumbers tl rn 4 ty (ax + 1)).2.1) 1), .int (((rX1_readNumbers tl rn 4 ty (ax + 1)).2.1) 2), .int (((rX1_readNumbers tl rn 4 ty (ax + 1)).2.1) 3)]) (st := []) dX1_readItem_120 123 rfl kX1_58 ⟨Nat.le_of_ble_eq_true rfl, Nat.le_of_ble_eq_true rfl⟩ (MX2_addPerson_18 (sz := sz) (((rX1_readNumbers tl rn 4 ty (ax + 1)).2.1) 0) (((rX1_readNumbers tl rn 4 ty (ax + 1)).2.1) 1) (((rX1_readNumbers tl rn 4 ty (ax + 1)).2.1) 2) (((rX1_readNumbers tl rn 4 ty (ax + 1)).2.1) 3) (by omega)) rfl rfl rfl rfl (Nat.le_of_ble_eq_true rfl) (Nat.le_refl _) (Nat.le_refl _) ?_
        refine g_if_eq dX1_readItem_123 130 rfl 126 rfl (fun c6 => ?_) (fun c6 => ?_)
        · replace c6 := gB_f c6
          refine g_iconst 0 dX1_readItem_130 131 rfl (by decide) ?_
          refine g_ireturn dX1_readItem_131 rfl rfl (Nat.le_refl _) (Nat.le_refl _) ?_
          have e : (rX1_readItem_7 tl rn dki dag dco dpa dme dso dwa dbe dpr ty ax sz) = (false, ((rX1_readNumbers tl rn 4 ty (ax + 1)).2.1), (rX1_readNumbers tl rn 4 ty (ax + 1)).2.2, ((rX2_addPerson_7 dki dag dco dpa dme dso (((rX1_readNumbers tl rn 4 ty (ax + 1)).2.1) 0) (((rX1_readNumbers tl rn 4 ty (ax + 1)).2.1) 1) (((rX1_readNumbers tl rn 4 ty (ax + 1)).2.1) 2) (((rX1_readNumbers tl rn 4 ty (ax + 1)).2.1) 3) sz).2.1), ((rX2_addPerson_7 dki dag dco dpa dme dso (((rX1_readNumbers tl rn 4 ty (ax + 1)).2.1) 0) (((rX1_readNumbers tl rn 4 ty (ax + 1)).2.1) 1) (((rX1_readNumbers tl rn 4 ty (ax + 1)).2.1) 2) (((rX1_readNumbers tl rn 4 ty (ax + 1)).2.1) 3) sz).2.2.1), ((rX2_addPerson_7 dki dag dco dpa dme dso (((rX1_readNumbers tl rn 4 ty (ax + 1)).2.1) 0) (((rX1_readNumbers tl rn 4 ty (ax + 1)).2.1) 1) (((rX1_readNumbers tl rn 4 ty (ax + 1)).2.1) 2) (((rX1_readNumbers tl rn 4 ty (ax + 1)).2.1) 3) sz).2.2.2.1), ((rX2_addPerson_7 dki dag dco dpa dme dso (((rX1_readNumbers tl rn 4 ty (ax + 1)).2.1) 0) (((rX1_readNumbers tl rn 4 ty (ax + 1)).2.1) 1) (((rX1_readNumbers tl rn 4 ty (ax + 1)).2.1) 2) (((rX1_readNumbers tl rn 4 ty (ax + 1)).2.1) 3) sz).2.2.2.2.1), ((rX2_addPerson_7 dki dag dco dpa dme dso (((rX1_readNumbers tl rn 4 ty (ax + 1)).2.1) 0) (((rX1_readNumbers tl rn 4 ty (ax + 1)).2.1) 1) (((rX1_readNumbers tl rn 4 ty (ax + 1)).2.1) 2) (((rX1_readNumbers tl rn 4 ty (ax + 1)).2.1) 3) sz).2.2.2.2.2.1), ((rX2_addPerson_7 dki dag dco dpa dme dso (((rX1_readNumbers tl rn 4 ty (ax + 1)).2.1) 0) (((rX1_readNumbers tl rn 4 ty (ax + 1)).2.1) 1) (((rX1_readNumbers tl rn 4 ty (ax + 1)).2.1) 2) (((rX1_readNumbers tl rn 4 ty (ax + 1)).2.1) 3) sz).2.2.2.2.2.2.1), (rX2_addPerson_7 dki dag dco dpa dme dso (((rX1_readNumbers tl rn 4 ty (ax + 1)).2.1) 0) (((rX1_readNumbers tl rn 4 ty (ax + 1)).2.1) 1) (((rX1_readNumbers tl rn 4 ty (ax + 1)).2.1) 2) (((rX1_readNumbers tl rn 4 ty (ax + 1)).2.1) 3) sz).2.2.2.2.2.2.2, dwa, dbe, dpr) := by rw [rX1_readItem_7, if_neg c1, if_pos c4, if_pos c5, if_neg c6]
          rw [e]
          exact ⟨rfl, rfl⟩
        · replace c6 := gB_t c6
          refine g_iconst 1 dX1_readItem_126 127 rfl (by decide) ?_
          refine g_goto dX1_readItem_127 131 rfl ?_
          refine g_ireturn dX1_readItem_131 rfl rfl (Nat.le_refl _) (Nat.le_refl _) ?_
          have e : (rX1_readItem_7 tl rn dki dag dco dpa dme dso dwa dbe dpr ty ax sz) = (true, ((rX1_readNumbers tl rn 4 ty (ax + 1)).2.1), (rX1_readNumbers tl rn 4 ty (ax + 1)).2.2, ((rX2_addPerson_7 dki dag dco dpa dme dso (((rX1_readNumbers tl rn 4 ty (ax + 1)).2.1) 0) (((rX1_readNumbers tl rn 4 ty (ax + 1)).2.1) 1) (((rX1_readNumbers tl rn 4 ty (ax + 1)).2.1) 2) (((rX1_readNumbers tl rn 4 ty (ax + 1)).2.1) 3) sz).2.1), ((rX2_addPerson_7 dki dag dco dpa dme dso (((rX1_readNumbers tl rn 4 ty (ax + 1)).2.1) 0) (((rX1_readNumbers tl rn 4 ty (ax + 1)).2.1) 1) (((rX1_readNumbers tl rn 4 ty (ax + 1)).2.1) 2) (((rX1_readNumbers tl rn 4 ty (ax + 1)).2.1) 3) sz).2.2.1), ((rX2_addPerson_7 dki dag dco dpa dme dso (((rX1_readNumbers tl rn 4 ty (ax + 1)).2.1) 0) (((rX1_readNumbers tl rn 4 ty (ax + 1)).2.1) 1) (((rX1_readNumbers tl rn 4 ty (ax + 1)).2.1) 2) (((rX1_readNumbers tl rn 4 ty (ax + 1)).2.1) 3) sz).2.2.2.1), ((rX2_addPerson_7 dki dag dco dpa dme dso (((rX1_readNumbers tl rn 4 ty (ax + 1)).2.1) 0) (((rX1_readNumbers tl rn 4 ty (ax + 1)).2.1) 1) (((rX1_readNumbers tl rn 4 ty (ax + 1)).2.1) 2) (((rX1_readNumbers tl rn 4 ty (ax + 1)).2.1) 3) sz).2.2.2.2.1), ((rX2_addPerson_7 dki dag dco dpa dme dso (((rX1_readNumbers tl rn 4 ty (ax + 1)).2.1) 0) (((rX1_readNumbers tl rn 4 ty (ax + 1)).2.1) 1) (((rX1_readNumbers tl rn 4 ty (ax + 1)).2.1) 2) (((rX1_readNumbers tl rn 4 ty (ax + 1)).2.1) 3) sz).2.2.2.2.2.1), ((rX2_addPerson_7 dki dag dco dpa dme dso (((rX1_readNumbers tl rn 4 ty (ax + 1)).2.1) 0) (((rX1_readNumbers tl rn 4 ty (ax + 1)).2.1) 1) (((rX1_readNumbers tl rn 4 ty (ax + 1)).2.1) 2) (((rX1_readNumbers tl rn 4 ty (ax + 1)).2.1) 3) sz).2.2.2.2.2.2.1), (rX2_addPerson_7 dki dag dco dpa dme dso (((rX1_readNumbers tl rn 4 ty (ax + 1)).2.1) 0) (((rX1_readNumbers tl rn 4 ty (ax + 1)).2.1) 1) (((rX1_readNumbers tl rn 4 ty (ax + 1)).2.1) 2) (((rX1_readNumbers tl rn 4 ty (ax + 1)).2.1) 3) sz).2.2.2.2.2.2.2, dwa, dbe, dpr) := by rw [rX1_readItem_7, if_neg c1, if_pos c4, if_pos c5, if_pos c6]
          rw [e]
          exact ⟨rfl, rfl⟩
  · refine g_aload_n dX1_readItem_28 rfl 29 rfl rfl ?_
    refine g_iconst 3 dX1_readItem_29 30 rfl (by decide) ?_
    refine g_cVv (as := [.int 3]) (st := []) dX1_readItem_30 33 rfl kX1_47 ⟨Nat.le_of_ble_eq_true rfl, Nat.le_of_ble_eq_true rfl⟩ (MX1_readNumbers (ty := ty) (ax := ax + 1) 3 (by omega) (by omega) (by decide)) rfl rfl rfl rfl (Nat.le_of_ble_eq_true rfl) (Nat.le_refl _) (Nat.le_refl _) ?_
    refine g_if_eq dX1_readItem_33 71 rfl 36 rfl (fun c2 => ?_) (fun c2 => ?_)
    · replace c2 := gB_f c2
      refine g_iconst 0 dX1_readItem_71 72 rfl (by decide) ?_
      refine g_ireturn dX1_readItem_72 rfl rfl (Nat.le_refl _) (Nat.le_refl _) ?_
      have e : (rX1_readItem_7 tl rn dki dag dco dpa dme dso dwa dbe dpr ty ax sz) = (false, ((rX1_readNumbers tl rn 3 ty (ax + 1)).2.1), (rX1_readNumbers tl rn 3 ty (ax + 1)).2.2, dki, dag, dco, dpa, dme, dso, sz, dwa, dbe, dpr) := by rw [rX1_readItem_7, if_pos c1, if_neg c2]
      rw [e]
      exact ⟨rfl, rfl⟩
    · replace c2 := gB_t c2
      refine g_aload_n dX1_readItem_36 rfl 37 rfl rfl ?_
      refine g_aload_n dX1_readItem_37 rfl 38 rfl rfl ?_
      refine g_get (v := .ref 5) dX1_readItem_38 41 rfl lX1_16 rfl rfl ?_
      refine g_iconst 0 dX1_readItem_41 42 rfl (by decide) ?_
      refine g_cVv (as := [.int 0]) (st := [.ref 18]) dX1_readItem_42 45 rfl kX1_51 ⟨Nat.le_of_ble_eq_true rfl, Nat.le_of_ble_eq_true rfl⟩ (MX3_atN (k := 5) (j := 6) (N := 4) (f := ((rX1_readNumbers tl rn 3 ty (ax + 1)).2.1)) rfl rfl (by decide) 0 (by omega)) rfl rfl rfl rfl (Nat.le_of_ble_eq_true rfl) (Nat.le_refl _) (Nat.le_refl _) ?_
      refine g_aload_n dX1_readItem_45 rfl 46 rfl rfl ?_
      refine g_get (v := .ref 5) dX1_readItem_46 49 rfl lX1_16 rfl rfl ?_
      refine g_iconst 1 dX1_readItem_49 50 rfl (by decide) ?_
      refine g_cVv (as := [.int 1]) (st := [.int (((rX1_readNumbers tl rn 3 ty (ax + 1)).2.1) 0), .ref 18]) dX1_readItem_50 53 rfl kX1_51 ⟨Nat.le_of_ble_eq_true rfl, Nat.le_of_ble_eq_true rfl⟩ (MX3_atN (k := 5) (j := 6) (N := 4) (f := ((rX1_readNumbers tl rn 3 ty (ax + 1)).2.1)) rfl rfl (by decide) 1 (by omega)) rfl rfl rfl rfl (Nat.le_of_ble_eq_true rfl) (Nat.le_refl _) (Nat.le_refl _) ?_
      refine g_aload_n dX1_readItem_53 rfl 54 rfl rfl ?_
      refine g_get (v := .ref 5) dX1_readItem_54 57 rfl lX1_16 rfl rfl ?_
      refine g_iconst 2 dX1_readItem_57 58 rfl (by decide) ?_
      refine g_cVv (as := [.int 2]) (st := [.int (((rX1_readNumbers tl rn 3 ty (ax + 1)).2.1) 1), .int (((rX1_readNumbers tl rn 3 ty (ax + 1)).2.1) 0), .ref 18]) dX1_readItem_58 61 rfl kX1_51 ⟨Nat.le_of_ble_eq_true rfl, Nat.le_of_ble_eq_true rfl⟩ (MX3_atN (k := 5) (j := 6) (N := 4) (f := ((rX1_readNumbers tl rn 3 ty (ax + 1)).2.1)) rfl rfl (by decide) 2 (by omega)) rfl rfl rfl rfl (Nat.le_of_ble_eq_true rfl) (Nat.le_refl _) (Nat.le_refl _) ?_
      refine g_cVv (as := [.int (((rX1_readNumbers tl rn 3 ty (ax + 1)).2.1) 0), .int (((rX1_readNumbers tl rn 3 ty (ax + 1)).2.1) 1), .int (((rX1_readNumbers tl rn 3 ty (ax + 1)).2.1) 2)]) (st := []) dX1_readItem_61 64 rfl kX1_54 ⟨Nat.le_of_ble_eq_true rfl, Nat.le_of_ble_eq_true rfl⟩ (MX2_setFerry_18 (((rX1_readNumbers tl rn 3 ty (ax + 1)).2.1) 0) (((rX1_readNumbers tl rn 3 ty (ax + 1)).2.1) 1) (((rX1_readNumbers tl rn 3 ty (ax + 1)).2.1) 2)) rfl rfl rfl rfl (Nat.le_of_ble_eq_true rfl) (Nat.le_refl _) (Nat.le_refl _) ?_
      refine g_if_eq dX1_readItem_64 71 rfl 67 rfl (fun c3 => ?_) (fun c3 => ?_)
      · replace c3 := gB_f c3
        refine g_iconst 0 dX1_readItem_71 72 rfl (by decide) ?_
        refine g_ireturn dX1_readItem_72 rfl rfl (Nat.le_refl _) (Nat.le_refl _) ?_
        have e : (rX1_readItem_7 tl rn dki dag dco dpa dme dso dwa dbe dpr ty ax sz) = (false, ((rX1_readNumbers tl rn 3 ty (ax + 1)).2.1), (rX1_readNumbers tl rn 3 ty (ax + 1)).2.2, dki, dag, dco, dpa, dme, dso, sz, ((rX2_setFerry_7 dwa dbe dpr (((rX1_readNumbers tl rn 3 ty (ax + 1)).2.1) 0) (((rX1_readNumbers tl rn 3 ty (ax + 1)).2.1) 1) (((rX1_readNumbers tl rn 3 ty (ax + 1)).2.1) 2)).2.1), ((rX2_setFerry_7 dwa dbe dpr (((rX1_readNumbers tl rn 3 ty (ax + 1)).2.1) 0) (((rX1_readNumbers tl rn 3 ty (ax + 1)).2.1) 1) (((rX1_readNumbers tl rn 3 ty (ax + 1)).2.1) 2)).2.2.1), ((rX2_setFerry_7 dwa dbe dpr (((rX1_readNumbers tl rn 3 ty (ax + 1)).2.1) 0) (((rX1_readNumbers tl rn 3 ty (ax + 1)).2.1) 1) (((rX1_readNumbers tl rn 3 ty (ax + 1)).2.1) 2)).2.2.2)) := by rw [rX1_readItem_7, if_pos c1, if_pos c2, if_neg c3]
        rw [e]
        exact ⟨rfl, rfl⟩
      · replace c3 := gB_t c3
        refine g_iconst 1 dX1_readItem_67 68 rfl (by decide) ?_
        refine g_goto dX1_readItem_68 72 rfl ?_
        refine g_ireturn dX1_readItem_72 rfl rfl (Nat.le_refl _) (Nat.le_refl _) ?_
        have e : (rX1_readItem_7 tl rn dki dag dco dpa dme dso dwa dbe dpr ty ax sz) = (true, ((rX1_readNumbers tl rn 3 ty (ax + 1)).2.1), (rX1_readNumbers tl rn 3 ty (ax + 1)).2.2, dki, dag, dco, dpa, dme, dso, sz, ((rX2_setFerry_7 dwa dbe dpr (((rX1_readNumbers tl rn 3 ty (ax + 1)).2.1) 0) (((rX1_readNumbers tl rn 3 ty (ax + 1)).2.1) 1) (((rX1_readNumbers tl rn 3 ty (ax + 1)).2.1) 2)).2.1), ((rX2_setFerry_7 dwa dbe dpr (((rX1_readNumbers tl rn 3 ty (ax + 1)).2.1) 0) (((rX1_readNumbers tl rn 3 ty (ax + 1)).2.1) 1) (((rX1_readNumbers tl rn 3 ty (ax + 1)).2.1) 2)).2.2.1), ((rX2_setFerry_7 dwa dbe dpr (((rX1_readNumbers tl rn 3 ty (ax + 1)).2.1) 0) (((rX1_readNumbers tl rn 3 ty (ax + 1)).2.1) 1) (((rX1_readNumbers tl rn 3 ty (ax + 1)).2.1) 2)).2.2.2)) := by rw [rX1_readItem_7, if_pos c1, if_pos c2, if_pos c3]
        rw [e]
        exact ⟨rfl, rfl⟩
theorem readNumbers_le {tl rn : Int32 → Int32} {ty mn ax : Nat} (h : ax + 3 * mn ≤ 900) : (rX1_readNumbers tl rn mn ty ax).2.2 ≤ 900 := by
  unfold rX1_readNumbers
  split <;> exact readNumbers_lp mn 0 ax rn false (by omega)
theorem addPerson_sz {ki ag co pa me : Int32 → Int32} {so kd yr mn pt : Int32} {sz : Nat} (hs : sz ≤ 9) : (rX2_addPerson_7 ki ag co pa me so kd yr mn pt sz).2.2.2.2.2.2.2 ≤ 9 := by
  rcases Nat.lt_or_ge sz 9 with q | q
  · unfold rX2_addPerson_7
    repeat (split <;> try (dsimp only; omega))
  · have h9 : (9 : Int32) ≤ nI sz := nI_le (a := 9) q (by omega)
    unfold rX2_addPerson_7
    rw [if_pos h9]
    exact hs
theorem readItem_rp {tl rn ki ag co pa me : Int32 → Int32} {so wa be pr : Int32} {ty ax sz : Nat} (h : ax < 700) : (rX1_readItem_7 tl rn ki ag co pa me so wa be pr ty ax sz).2.2.1 ≤ 900 := by
  have q1 := readNumbers_le (tl := tl) (rn := rn) (ty := ty) (mn := 3) (ax := ax + 1) (by omega)
  have q2 := readNumbers_le (tl := tl) (rn := rn) (ty := ty) (mn := 4) (ax := ax + 1) (by omega)
  unfold rX1_readItem_7
  repeat (split <;> try (dsimp only; omega))
theorem readItem_sz {tl rn ki ag co pa me : Int32 → Int32} {so wa be pr : Int32} {ty ax sz : Nat} (hs : sz ≤ 9) : (rX1_readItem_7 tl rn ki ag co pa me so wa be pr ty ax sz).2.2.2.2.2.2.2.2.2.1 ≤ 9 := by
  unfold rX1_readItem_7
  repeat (split <;> try (dsimp only; first | with_reducible exact hs | with_reducible exact addPerson_sz hs))
/-- the reader: the numbers, the place, the roll -/
abbrev gRd : Type := (Int32 → Int32) × Nat × (Int32 → Int32) × (Int32 → Int32) × (Int32 → Int32) × (Int32 → Int32) × (Int32 → Int32) × Int32 × Nat × Int32 × Int32 × Int32
def rdC (tl : Int32 → Int32) (ty : Nat) : Nat → gRd → Int32 × gRd
  | 0, t => (-4, t)
  | d + 1, t => if (rX7_length (nI ty)) ≤ (nI t.2.1) then (-4, t) else if (rX1_readItem_7 tl t.1 t.2.2.1 t.2.2.2.1 t.2.2.2.2.1 t.2.2.2.2.2.1 t.2.2.2.2.2.2.1 t.2.2.2.2.2.2.2.1 t.2.2.2.2.2.2.2.2.2.1 t.2.2.2.2.2.2.2.2.2.2.1 t.2.2.2.2.2.2.2.2.2.2.2 ty t.2.1 t.2.2.2.2.2.2.2.2.1).1 = true then rdC tl ty d (rX1_readItem_7 tl t.1 t.2.2.1 t.2.2.2.1 t.2.2.2.2.1 t.2.2.2.2.2.1 t.2.2.2.2.2.2.1 t.2.2.2.2.2.2.2.1 t.2.2.2.2.2.2.2.2.2.1 t.2.2.2.2.2.2.2.2.2.2.1 t.2.2.2.2.2.2.2.2.2.2.2 ty t.2.1 t.2.2.2.2.2.2.2.2.1).2 else (nI t.2.1, (rX1_readItem_7 tl t.1 t.2.2.1 t.2.2.2.1 t.2.2.2.2.1 t.2.2.2.2.2.1 t.2.2.2.2.2.2.1 t.2.2.2.2.2.2.2.1 t.2.2.2.2.2.2.2.2.2.1 t.2.2.2.2.2.2.2.2.2.2.1 t.2.2.2.2.2.2.2.2.2.2.2 ty t.2.1 t.2.2.2.2.2.2.2.2.1).2)
set_option maxRecDepth 100000 in
set_option maxHeartbeats 4000000 in
theorem LX1_readInto_7 {w : gW} {al : Bool} {tl dki dag dco dpa dme nt tnt os og cs mo le se ab : Int32 → Int32} {dso drs dwa dbe dpr nm nb nc nd ns np tnm tnb tnc tnd tns tnp ph kh oh pk pc lf cu cd : Int32} {pf : Nat → Option Nat} {pst kst : Nat → gS} {n : Nat} {P : gP} {ty : Nat} (hty : ty ≤ 200) : ∀ (d i : Nat) (t : gRd), i + d = 200 → t.2.1 ≤ 900 → t.2.2.2.2.2.2.2.2.1 ≤ 9 → P (hC tl (nI ty) ((rdC tl ty d t).2.1) (nI ((rdC tl ty d t).2.2.1)) ((rdC tl ty d t).2.2.2.1) ((rdC tl ty d t).2.2.2.2.1) ((rdC tl ty d t).2.2.2.2.2.1) ((rdC tl ty d t).2.2.2.2.2.2.1) ((rdC tl ty d t).2.2.2.2.2.2.2.1) ((rdC tl ty d t).2.2.2.2.2.2.2.2.1) (nI ((rdC tl ty d t).2.2.2.2.2.2.2.2.2.1)) ((rdC tl ty d t).2.2.2.2.2.2.2.2.2.2.1) ((rdC tl ty d t).2.2.2.2.2.2.2.2.2.2.2.1) ((rdC tl ty d t).2.2.2.2.2.2.2.2.2.2.2.2) dki dag dco dpa dme dso drs dwa dbe dpr nt nm nb nc nd ns np tnt tnm tnb tnc tnd tns tnp pf ph pst kh kst os og oh cs mo le se pk pc lf ab cu cd) (some (.int (rdC tl ty d t).1)) → G w gT0 al n mX1_readInto 0 0 P 0 0 (hC tl (nI ty) t.1 (nI t.2.1) t.2.2.1 t.2.2.2.1 t.2.2.2.2.1 t.2.2.2.2.2.1 t.2.2.2.2.2.2.1 t.2.2.2.2.2.2.2.1 (nI t.2.2.2.2.2.2.2.2.1) t.2.2.2.2.2.2.2.2.2.1 t.2.2.2.2.2.2.2.2.2.2.1 t.2.2.2.2.2.2.2.2.2.2.2 dki dag dco dpa dme dso drs dwa dbe dpr nt nm nb nc nd ns np tnt tnm tnb tnc tnd tns tnp pf ph pst kh kst os og oh cs mo le se pk pc lf ab cu cd) 11 [.ref 4, .ref 7, .int (nI i), gF] [] := by
  intro d
  induction d with
  | zero =>
    intro i t hi hp hs k
    have hN : i = 200 := by omega
    rw [hN]
    refine g_iload_n dX1_readInto_11 rfl 12 rfl rfl ?_
    refine g_sipush 200 dX1_readInto_12 15 rfl (by decide) ?_
    refine g_icmp_ge dX1_readInto_15 53 rfl 18 rfl (fun _ => ?_) (fun c => absurd (nI_le (a := 200) (b := 200) (by omega) (by omega)) c)
    refine g_bipush (-4) dX1_readInto_53 55 rfl (by decide) ?_
    refine g_ireturn dX1_readInto_55 rfl rfl (Nat.le_refl _) (Nat.le_refl _) ?_
    exact k
  | succ d ih =>
    intro i t hi hp hs k
    by_cases hq : (rX7_length (nI ty)) ≤ (nI t.2.1)
    · refine g_iload_n dX1_readInto_11 rfl 12 rfl rfl ?_
      refine g_sipush 200 dX1_readInto_12 15 rfl (by decide) ?_
      refine g_icmp_ge dX1_readInto_15 53 rfl 18 rfl (fun c => absurd c (nI_ge (a := i) (b := 200) (by omega) (by omega))) (fun _ => ?_)
      refine g_aload_n dX1_readInto_18 rfl 19 rfl rfl ?_
      refine g_get (v := .int (nI t.2.1)) dX1_readInto_19 22 rfl lX1_29 rfl rfl ?_
      refine g_aload_n dX1_readInto_22 rfl 23 rfl rfl ?_
      refine g_get (v := .ref 1) dX1_readInto_23 26 rfl lX1_20 rfl rfl ?_
      refine g_cVv (as := []) (st := [.int (nI t.2.1)]) dX1_readInto_26 29 rfl kX1_33 ⟨Nat.le_of_ble_eq_true rfl, Nat.le_of_ble_eq_true rfl⟩ (MX7_length) rfl rfl rfl rfl (Nat.le_of_ble_eq_true rfl) (Nat.le_refl _) (Nat.le_refl _) ?_
      refine g_icmp_ge dX1_readInto_29 53 rfl 32 rfl (fun _ => ?_) (fun c => absurd hq c)
      refine g_bipush (-4) dX1_readInto_53 55 rfl (by decide) ?_
      refine g_ireturn dX1_readInto_55 rfl rfl (Nat.le_refl _) (Nat.le_refl _) ?_
      have e : rdC tl ty (d + 1) t = (-4, t) := by rw [rdC, if_pos hq]
      rw [e] at k
      exact k
    · have hlt : t.2.1 < 200 := by
        have q : t.2.1 < ty := Nat.lt_of_not_le (fun z => hq (nI_le z (by omega)))
        omega
      refine g_iload_n dX1_readInto_11 rfl 12 rfl rfl ?_
      refine g_sipush 200 dX1_readInto_12 15 rfl (by decide) ?_
      refine g_icmp_ge dX1_readInto_15 53 rfl 18 rfl (fun c => absurd c (nI_ge (a := i) (b := 200) (by omega) (by omega))) (fun _ => ?_)
      refine g_aload_n dX1_readInto_18 rfl 19 rfl rfl ?_
      refine g_get (v := .int (nI t.2.1)) dX1_readInto_19 22 rfl lX1_29 rfl rfl ?_
      refine g_aload_n dX1_readInto_22 rfl 23 rfl rfl ?_
      refine g_get (v := .ref 1) dX1_readInto_23 26 rfl lX1_20 rfl rfl ?_
      refine g_cVv (as := []) (st := [.int (nI t.2.1)]) dX1_readInto_26 29 rfl kX1_33 ⟨Nat.le_of_ble_eq_true rfl, Nat.le_of_ble_eq_true rfl⟩ (MX7_length) rfl rfl rfl rfl (Nat.le_of_ble_eq_true rfl) (Nat.le_refl _) (Nat.le_refl _) ?_
      refine g_icmp_ge dX1_readInto_29 53 rfl 32 rfl (fun c => absurd c hq) (fun _ => ?_)
      refine g_aload_n dX1_readInto_32 rfl 33 rfl rfl ?_
      refine g_get (v := .int (nI t.2.1)) dX1_readInto_33 36 rfl lX1_29 rfl rfl ?_
      refine g_istore3 dX1_readInto_36 37 rfl (by decide) rfl ?_
      refine g_aload_n dX1_readInto_37 rfl 38 rfl rfl ?_
      refine g_aload_n dX1_readInto_38 rfl 39 rfl rfl ?_
      refine g_cVv (as := [.ref 7]) (st := []) dX1_readInto_39 42 rfl kX1_39 ⟨Nat.le_of_ble_eq_true rfl, Nat.le_of_ble_eq_true rfl⟩ (MX1_readItem_7 (ty := ty) (ax := t.2.1) (sz := t.2.2.2.2.2.2.2.2.1) (by omega) (by omega) (by omega)) rfl rfl rfl rfl (Nat.le_of_ble_eq_true rfl) (Nat.le_refl _) (Nat.le_refl _) ?_
      refine g_if_ne dX1_readInto_42 47 rfl 45 rfl (fun c1 => ?_) (fun c1 => ?_)
      · replace c1 := gB_t c1
        refine g_iinc2 dX1_readInto_47 50 rfl 1 (by decide) (nI (i + 1)) (nI_add _ 1) (by decide) rfl ?_
        refine g_goto dX1_readInto_50 11 rfl ?_
        refine g_fgt (L' := [.ref 4, .ref 7, .int (nI (i + 1)), gF]) ⟨Or.inl rfl, Or.inl rfl, Or.inl rfl, Or.inr rfl, trivial⟩ ?_
        have e : rdC tl ty (d + 1) t = rdC tl ty d (rX1_readItem_7 tl t.1 t.2.2.1 t.2.2.2.1 t.2.2.2.2.1 t.2.2.2.2.2.1 t.2.2.2.2.2.2.1 t.2.2.2.2.2.2.2.1 t.2.2.2.2.2.2.2.2.2.1 t.2.2.2.2.2.2.2.2.2.2.1 t.2.2.2.2.2.2.2.2.2.2.2 ty t.2.1 t.2.2.2.2.2.2.2.2.1).2 := by rw [rdC, if_neg hq, if_pos c1]
        rw [e] at k
        exact ih (i + 1) (rX1_readItem_7 tl t.1 t.2.2.1 t.2.2.2.1 t.2.2.2.2.1 t.2.2.2.2.2.1 t.2.2.2.2.2.2.1 t.2.2.2.2.2.2.2.1 t.2.2.2.2.2.2.2.2.2.1 t.2.2.2.2.2.2.2.2.2.2.1 t.2.2.2.2.2.2.2.2.2.2.2 ty t.2.1 t.2.2.2.2.2.2.2.2.1).2 (by omega) (readItem_rp (by omega)) (readItem_sz hs) k
      · replace c1 := gB_f c1
        refine g_iload_n dX1_readInto_45 rfl 46 rfl rfl ?_
        refine g_ireturn dX1_readInto_46 rfl rfl (Nat.le_refl _) (Nat.le_refl _) ?_
        have e : rdC tl ty (d + 1) t = (nI t.2.1, (rX1_readItem_7 tl t.1 t.2.2.1 t.2.2.2.1 t.2.2.2.2.1 t.2.2.2.2.2.1 t.2.2.2.2.2.2.1 t.2.2.2.2.2.2.2.1 t.2.2.2.2.2.2.2.2.2.1 t.2.2.2.2.2.2.2.2.2.2.1 t.2.2.2.2.2.2.2.2.2.2.2 ty t.2.1 t.2.2.2.2.2.2.2.2.1).2) := by rw [rdC, if_neg hq, if_neg c1]
        rw [e] at k
        exact k
set_option maxRecDepth 100000 in
set_option maxHeartbeats 4000000 in
theorem LX1_readInto_18 {w : gW} {al : Bool} {tl ki ag co pa me nt tnt os og cs mo le se ab : Int32 → Int32} {so rs wa be pr nm nb nc nd ns np tnm tnb tnc tnd tns tnp ph kh oh pk pc lf cu cd : Int32} {pf : Nat → Option Nat} {pst kst : Nat → gS} {n : Nat} {P : gP} {ty : Nat} (hty : ty ≤ 200) : ∀ (d i : Nat) (t : gRd), i + d = 200 → t.2.1 ≤ 900 → t.2.2.2.2.2.2.2.2.1 ≤ 9 → P (hC tl (nI ty) ((rdC tl ty d t).2.1) (nI ((rdC tl ty d t).2.2.1)) ki ag co pa me so rs wa be pr ((rdC tl ty d t).2.2.2.1) ((rdC tl ty d t).2.2.2.2.1) ((rdC tl ty d t).2.2.2.2.2.1) ((rdC tl ty d t).2.2.2.2.2.2.1) ((rdC tl ty d t).2.2.2.2.2.2.2.1) ((rdC tl ty d t).2.2.2.2.2.2.2.2.1) (nI ((rdC tl ty d t).2.2.2.2.2.2.2.2.2.1)) ((rdC tl ty d t).2.2.2.2.2.2.2.2.2.2.1) ((rdC tl ty d t).2.2.2.2.2.2.2.2.2.2.2.1) ((rdC tl ty d t).2.2.2.2.2.2.2.2.2.2.2.2) nt nm nb nc nd ns np tnt tnm tnb tnc tnd tns tnp pf ph pst kh kst os og oh cs mo le se pk pc lf ab cu cd) (some (.int (rdC tl ty d t).1)) → G w gT0 al n mX1_readInto 0 0 P 0 0 (hC tl (nI ty) t.1 (nI t.2.1) ki ag co pa me so rs wa be pr t.2.2.1 t.2.2.2.1 t.2.2.2.2.1 t.2.2.2.2.2.1 t.2.2.2.2.2.2.1 t.2.2.2.2.2.2.2.1 (nI t.2.2.2.2.2.2.2.2.1) t.2.2.2.2.2.2.2.2.2.1 t.2.2.2.2.2.2.2.2.2.2.1 t.2.2.2.2.2.2.2.2.2.2.2 nt nm nb nc nd ns np tnt tnm tnb tnc tnd tns tnp pf ph pst kh kst os og oh cs mo le se pk pc lf ab cu cd) 11 [.ref 4, .ref 18, .int (nI i), gF] [] := by
  intro d
  induction d with
  | zero =>
    intro i t hi hp hs k
    have hN : i = 200 := by omega
    rw [hN]
    refine g_iload_n dX1_readInto_11 rfl 12 rfl rfl ?_
    refine g_sipush 200 dX1_readInto_12 15 rfl (by decide) ?_
    refine g_icmp_ge dX1_readInto_15 53 rfl 18 rfl (fun _ => ?_) (fun c => absurd (nI_le (a := 200) (b := 200) (by omega) (by omega)) c)
    refine g_bipush (-4) dX1_readInto_53 55 rfl (by decide) ?_
    refine g_ireturn dX1_readInto_55 rfl rfl (Nat.le_refl _) (Nat.le_refl _) ?_
    exact k
  | succ d ih =>
    intro i t hi hp hs k
    by_cases hq : (rX7_length (nI ty)) ≤ (nI t.2.1)
    · refine g_iload_n dX1_readInto_11 rfl 12 rfl rfl ?_
      refine g_sipush 200 dX1_readInto_12 15 rfl (by decide) ?_
      refine g_icmp_ge dX1_readInto_15 53 rfl 18 rfl (fun c => absurd c (nI_ge (a := i) (b := 200) (by omega) (by omega))) (fun _ => ?_)
      refine g_aload_n dX1_readInto_18 rfl 19 rfl rfl ?_
      refine g_get (v := .int (nI t.2.1)) dX1_readInto_19 22 rfl lX1_29 rfl rfl ?_
      refine g_aload_n dX1_readInto_22 rfl 23 rfl rfl ?_
      refine g_get (v := .ref 1) dX1_readInto_23 26 rfl lX1_20 rfl rfl ?_
      refine g_cVv (as := []) (st := [.int (nI t.2.1)]) dX1_readInto_26 29 rfl kX1_33 ⟨Nat.le_of_ble_eq_true rfl, Nat.le_of_ble_eq_true rfl⟩ (MX7_length) rfl rfl rfl rfl (Nat.le_of_ble_eq_true rfl) (Nat.le_refl _) (Nat.le_refl _) ?_
      refine g_icmp_ge dX1_readInto_29 53 rfl 32 rfl (fun _ => ?_) (fun c => absurd hq c)
      refine g_bipush (-4) dX1_readInto_53 55 rfl (by decide) ?_
      refine g_ireturn dX1_readInto_55 rfl rfl (Nat.le_refl _) (Nat.le_refl _) ?_
      have e : rdC tl ty (d + 1) t = (-4, t) := by rw [rdC, if_pos hq]
      rw [e] at k
      exact k
    · have hlt : t.2.1 < 200 := by
        have q : t.2.1 < ty := Nat.lt_of_not_le (fun z => hq (nI_le z (by omega)))
        omega
      refine g_iload_n dX1_readInto_11 rfl 12 rfl rfl ?_
      refine g_sipush 200 dX1_readInto_12 15 rfl (by decide) ?_
      refine g_icmp_ge dX1_readInto_15 53 rfl 18 rfl (fun c => absurd c (nI_ge (a := i) (b := 200) (by omega) (by omega))) (fun _ => ?_)
      refine g_aload_n dX1_readInto_18 rfl 19 rfl rfl ?_
      refine g_get (v := .int (nI t.2.1)) dX1_readInto_19 22 rfl lX1_29 rfl rfl ?_
      refine g_aload_n dX1_readInto_22 rfl 23 rfl rfl ?_
      refine g_get (v := .ref 1) dX1_readInto_23 26 rfl lX1_20 rfl rfl ?_
      refine g_cVv (as := []) (st := [.int (nI t.2.1)]) dX1_readInto_26 29 rfl kX1_33 ⟨Nat.le_of_ble_eq_true rfl, Nat.le_of_ble_eq_true rfl⟩ (MX7_length) rfl rfl rfl rfl (Nat.le_of_ble_eq_true rfl) (Nat.le_refl _) (Nat.le_refl _) ?_
      refine g_icmp_ge dX1_readInto_29 53 rfl 32 rfl (fun c => absurd c hq) (fun _ => ?_)
      refine g_aload_n dX1_readInto_32 rfl 33 rfl rfl ?_
      refine g_get (v := .int (nI t.2.1)) dX1_readInto_33 36 rfl lX1_29 rfl rfl ?_
      refine g_istore3 dX1_readInto_36 37 rfl (by decide) rfl ?_
      refine g_aload_n dX1_readInto_37 rfl 38 rfl rfl ?_
      refine g_aload_n dX1_readInto_38 rfl 39 rfl rfl ?_
      refine g_cVv (as := [.ref 18]) (st := []) dX1_readInto_39 42 rfl kX1_39 ⟨Nat.le_of_ble_eq_true rfl, Nat.le_of_ble_eq_true rfl⟩ (MX1_readItem_18 (ty := ty) (ax := t.2.1) (sz := t.2.2.2.2.2.2.2.2.1) (by omega) (by omega) (by omega)) rfl rfl rfl rfl (Nat.le_of_ble_eq_true rfl) (Nat.le_refl _) (Nat.le_refl _) ?_
      refine g_if_ne dX1_readInto_42 47 rfl 45 rfl (fun c1 => ?_) (fun c1 => ?_)
      · replace c1 := gB_t c1
        refine g_iinc2 dX1_readInto_47 50 rfl 1 (by decide) (nI (i + 1)) (nI_add _ 1) (by decide) rfl ?_
        refine g_goto dX1_readInto_50 11 rfl ?_
        refine g_fgt (L' := [.ref 4, .ref 18, .int (nI (i + 1)), gF]) ⟨Or.inl rfl, Or.inl rfl, Or.inl rfl, Or.inr rfl, trivial⟩ ?_
        have e : rdC tl ty (d + 1) t = rdC tl ty d (rX1_readItem_7 tl t.1 t.2.2.1 t.2.2.2.1 t.2.2.2.2.1 t.2.2.2.2.2.1 t.2.2.2.2.2.2.1 t.2.2.2.2.2.2.2.1 t.2.2.2.2.2.2.2.2.2.1 t.2.2.2.2.2.2.2.2.2.2.1 t.2.2.2.2.2.2.2.2.2.2.2 ty t.2.1 t.2.2.2.2.2.2.2.2.1).2 := by rw [rdC, if_neg hq, if_pos c1]
        rw [e] at k
        exact ih (i + 1) (rX1_readItem_7 tl t.1 t.2.2.1 t.2.2.2.1 t.2.2.2.2.1 t.2.2.2.2.2.1 t.2.2.2.2.2.2.1 t.2.2.2.2.2.2.2.1 t.2.2.2.2.2.2.2.2.2.1 t.2.2.2.2.2.2.2.2.2.2.1 t.2.2.2.2.2.2.2.2.2.2.2 ty t.2.1 t.2.2.2.2.2.2.2.2.1).2 (by omega) (readItem_rp (by omega)) (readItem_sz hs) k
      · replace c1 := gB_f c1
        refine g_iload_n dX1_readInto_45 rfl 46 rfl rfl ?_
        refine g_ireturn dX1_readInto_46 rfl rfl (Nat.le_refl _) (Nat.le_refl _) ?_
        have e : rdC tl ty (d + 1) t = (nI t.2.1, (rX1_readItem_7 tl t.1 t.2.2.1 t.2.2.2.1 t.2.2.2.2.1 t.2.2.2.2.2.1 t.2.2.2.2.2.2.1 t.2.2.2.2.2.2.2.1 t.2.2.2.2.2.2.2.2.2.1 t.2.2.2.2.2.2.2.2.2.2.1 t.2.2.2.2.2.2.2.2.2.2.2 ty t.2.1 t.2.2.2.2.2.2.2.2.1).2) := by rw [rdC, if_neg hq, if_neg c1]
        rw [e] at k
        exact k
def rInto0 (rn ki ag co pa me : Int32 → Int32) (wa be pr : Int32) : gRd := (rn, 0, ki, ag, co, pa, (rX2_clear_7 me wa be pr).1, (rX2_clear_7 me wa be pr).2.1, 0, (rX2_clear_7 me wa be pr).2.2.2.1, (rX2_clear_7 me wa be pr).2.2.2.2.1, (rX2_clear_7 me wa be pr).2.2.2.2.2)
/-- what the text says -/
def rInto (tl rn ki ag co pa me : Int32 → Int32) (wa be pr : Int32) (ty : Nat) : Int32 × gRd := rdC tl ty 200 (rInto0 rn ki ag co pa me wa be pr)
set_option maxRecDepth 100000 in
set_option maxHeartbeats 4000000 in
theorem MX1_readInto_7 {w : gW} {al : Bool} {tl rn ki ag co pa me dki dag dco dpa dme nt tnt os og cs mo le se ab : Int32 → Int32} {rp so rs wa be pr dso drs dwa dbe dpr nm nb nc nd ns np tnm tnb tnc tnd tns tnp ph kh oh pk pc lf cu cd : Int32} {pf : Nat → Option Nat} {pst kst : Nat → gS} {ty : Nat} (hty : ty ≤ 200) : M w gT0 al mX1_readInto 0 0 (hC tl (nI ty) rn rp ki ag co pa me so rs wa be pr dki dag dco dpa dme dso drs dwa dbe dpr nt nm nb nc nd ns np tnt tnm tnb tnc tnd tns tnp pf ph pst kh kst os og oh cs mo le se pk pc lf ab cu cd) [.ref 4, .ref 7] (gEq (hC tl (nI ty) ((rInto tl rn ki ag co pa me wa be pr ty).2.1) (nI ((rInto tl rn ki ag co pa me wa be pr ty).2.2.1)) ((rInto tl rn ki ag co pa me wa be pr ty).2.2.2.1) ((rInto tl rn ki ag co pa me wa be pr ty).2.2.2.2.1) ((rInto tl rn ki ag co pa me wa be pr ty).2.2.2.2.2.1) ((rInto tl rn ki ag co pa me wa be pr ty).2.2.2.2.2.2.1) ((rInto tl rn ki ag co pa me wa be pr ty).2.2.2.2.2.2.2.1) ((rInto tl rn ki ag co pa me wa be pr ty).2.2.2.2.2.2.2.2.1) (nI ((rInto tl rn ki ag co pa me wa be pr ty).2.2.2.2.2.2.2.2.2.1)) ((rInto tl rn ki ag co pa me wa be pr ty).2.2.2.2.2.2.2.2.2.2.1) ((rInto tl rn ki ag co pa me wa be pr ty).2.2.2.2.2.2.2.2.2.2.2.1) ((rInto tl rn ki ag co pa me wa be pr ty).2.2.2.2.2.2.2.2.2.2.2.2) dki dag dco dpa dme dso drs dwa dbe dpr nt nm nb nc nd ns np tnt tnm tnb tnc tnd tns tnp pf ph pst kh kst os og oh cs mo le se pk pc lf ab cu cd) (some (.int (rInto tl rn ki ag co pa me wa be pr ty).1))) := by
  refine M.of (L0 := [.ref 4, .ref 7, gF, gF]) (by decide +kernel) (Nat.le_of_ble_eq_true rfl) rfl ?_
  refine g_aload_n dX1_readInto_0 rfl 1 rfl rfl ?_
  refine g_cV0 (as := []) (st := []) dX1_readInto_1 4 rfl kX1_24 ⟨Nat.le_of_ble_eq_true rfl, Nat.le_of_ble_eq_true rfl⟩ (MX2_clear_7) rfl rfl rfl rfl (Nat.le_of_ble_eq_true rfl) (Nat.le_refl _) (Nat.le_refl _) ?_
  refine g_aload_n dX1_readInto_4 rfl 5 rfl rfl ?_
  refine g_iconst 0 dX1_readInto_5 6 rfl (by decide) ?_
  refine g_put dX1_readInto_6 9 rfl lX1_29 wrX1 rfl rfl rfl rfl rfl (Nat.le_of_ble_eq_true rfl) (h' := (hC tl (nI ty) rn 0 ki ag co pa ((rX2_clear_7 me wa be pr).1) ((rX2_clear_7 me wa be pr).2.1) ((rX2_clear_7 me wa be pr).2.2.1) ((rX2_clear_7 me wa be pr).2.2.2.1) ((rX2_clear_7 me wa be pr).2.2.2.2.1) ((rX2_clear_7 me wa be pr).2.2.2.2.2) dki dag dco dpa dme dso drs dwa dbe dpr nt nm nb nc nd ns np tnt tnm tnb tnc tnd tns tnp pf ph pst kh kst os og oh cs mo le se pk pc lf ab cu cd)) rfl ?_
  refine g_iconst 0 dX1_readInto_9 10 rfl (by decide) ?_
  refine g_istore2 dX1_readInto_10 11 rfl (by decide) rfl ?_
  exact LX1_readInto_7 hty 200 0 (rInto0 rn ki ag co pa me wa be pr) (by omega) (Nat.zero_le _) (Nat.zero_le _) ⟨rfl, rfl⟩
set_option maxRecDepth 100000 in
set_option maxHeartbeats 4000000 in
theorem MX1_readInto_18 {w : gW} {al : Bool} {tl rn ki ag co pa me dki dag dco dpa dme nt tnt os og cs mo le se ab : Int32 → Int32} {rp so rs wa be pr dso drs dwa dbe dpr nm nb nc nd ns np tnm tnb tnc tnd tns tnp ph kh oh pk pc lf cu cd : Int32} {pf : Nat → Option Nat} {pst kst : Nat → gS} {ty : Nat} (hty : ty ≤ 200) : M w gT0 al mX1_readInto 0 0 (hC tl (nI ty) rn rp ki ag co pa me so rs wa be pr dki dag dco dpa dme dso drs dwa dbe dpr nt nm nb nc nd ns np tnt tnm tnb tnc tnd tns tnp pf ph pst kh kst os og oh cs mo le se pk pc lf ab cu cd) [.ref 4, .ref 18] (gEq (hC tl (nI ty) ((rInto tl rn dki dag dco dpa dme dwa dbe dpr ty).2.1) (nI ((rInto tl rn dki dag dco dpa dme dwa dbe dpr ty).2.2.1)) ki ag co pa me so rs wa be pr ((rInto tl rn dki dag dco dpa dme dwa dbe dpr ty).2.2.2.1) ((rInto tl rn dki dag dco dpa dme dwa dbe dpr ty).2.2.2.2.1) ((rInto tl rn dki dag dco dpa dme dwa dbe dpr ty).2.2.2.2.2.1) ((rInto tl rn dki dag dco dpa dme dwa dbe dpr ty).2.2.2.2.2.2.1) ((rInto tl rn dki dag dco dpa dme dwa dbe dpr ty).2.2.2.2.2.2.2.1) ((rInto tl rn dki dag dco dpa dme dwa dbe dpr ty).2.2.2.2.2.2.2.2.1) (nI ((rInto tl rn dki dag dco dpa dme dwa dbe dpr ty).2.2.2.2.2.2.2.2.2.1)) ((rInto tl rn dki dag dco dpa dme dwa dbe dpr ty).2.2.2.2.2.2.2.2.2.2.1) ((rInto tl rn dki dag dco dpa dme dwa dbe dpr ty).2.2.2.2.2.2.2.2.2.2.2.1) ((rInto tl rn dki dag dco dpa dme dwa dbe dpr ty).2.2.2.2.2.2.2.2.2.2.2.2) nt nm nb nc nd ns np tnt tnm tnb tnc tnd tns tnp pf ph pst kh kst os og oh cs mo le se pk pc lf ab cu cd) (some (.int (rInto tl rn dki dag dco dpa dme dwa dbe dpr ty).1))) := by
  refine M.of (L0 := [.ref 4, .ref 18, gF, gF]) (by decide +kernel) (Nat.le_of_ble_eq_true rfl) rfl ?_
  refine g_aload_n dX1_readInto_0 rfl 1 rfl rfl ?_
  refine g_cV0 (as := []) (st := []) dX1_readInto_1 4 rfl kX1_24 ⟨Nat.le_of_ble_eq_true rfl, Nat.le_of_ble_eq_true rfl⟩ (MX2_clear_18) rfl rfl rfl rfl (Nat.le_of_ble_eq_true rfl) (Nat.le_refl _) (Nat.le_refl _) ?_
  refine g_aload_n dX1_readInto_4 rfl 5 rfl rfl ?_
  refine g_iconst 0 dX1_readInto_5 6 rfl (by decide) ?_
  refine g_put dX1_readInto_6 9 rfl lX1_29 wrX1 rfl rfl rfl rfl rfl (Nat.le_of_ble_eq_true rfl) (h' := (hC tl (nI ty) rn 0 ki ag co pa me so rs wa be pr dki dag dco dpa ((rX2_clear_7 dme dwa dbe dpr).1) ((rX2_clear_7 dme dwa dbe dpr).2.1) ((rX2_clear_7 dme dwa dbe dpr).2.2.1) ((rX2_clear_7 dme dwa dbe dpr).2.2.2.1) ((rX2_clear_7 dme dwa dbe dpr).2.2.2.2.1) ((rX2_clear_7 dme dwa dbe dpr).2.2.2.2.2) nt nm nb nc nd ns np tnt tnm tnb tnc tnd tns tnp pf ph pst kh kst os og oh cs mo le se pk pc lf ab cu cd)) rfl ?_
  refine g_iconst 0 dX1_readInto_9 10 rfl (by decide) ?_
  refine g_istore2 dX1_readInto_10 11 rfl (by decide) rfl ?_
  exact LX1_readInto_18 hty 200 0 (rInto0 rn dki dag dco dpa dme dwa dbe dpr) (by omega) (Nat.zero_le _) (Nat.zero_le _) ⟨rfl, rfl⟩
