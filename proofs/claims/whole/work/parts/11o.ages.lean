/-! the class: AgesFerry, ages told -/
def fX9_couldBeAnother_14 (og : Int32 → Int32) (p : Nat) (ow : Int32) (hd : Nat) (osn : Nat → Nat) : Nat → (Bool) → Bool × (Bool)
  | i, br => (if (nI i) = ow then (false, false) else (if (rX8_isSoIf og p ((nI i) - ow) hd osn) = true then (true, true) else (false, false)))
set_option maxRecDepth 100000 in
set_option maxHeartbeats 4000000 in
theorem LX9_couldBeAnother_14 {w : gW} {al : Bool} {tl rn ki ag co pa me dki dag dco dpa dme nt tnt os og cs mo le se ab : Int32 → Int32} {tn rp so wa be pr dso drs dwa dbe dpr nm nb nc nd ns np tnm tnb tnc tnd tns tnp ph kh pk pc lf cu cd : Int32} {pf : Nat → Option Nat} {pst kst : Nat → gS} {n : Nat} {P : gP} {hd sz : Nat} {osn : Nat → Nat} {p : Nat} {ow : Int32} (hhd : hd ≤ 5) (hp : p < 9) (hos : ∀ j, j < hd → os (nI j) = nI (osn j) ∧ osn j < 512)  : ∀ (d i : Nat) , i + d = 100 → (¬ (gWh (fX9_couldBeAnother_14 og p ow hd osn) d i false) = true → G w gT0 al n mX9_couldBeAnother 0 0 P 0 0 (hC tl tn rn rp ki ag co pa me so (nI sz) wa be pr dki dag dco dpa dme dso drs dwa dbe dpr nt nm nb nc nd ns np tnt tnm tnb tnc tnd tns tnp pf ph pst kh kst os og (nI hd) cs mo le se pk pc lf ab cu cd) 47 [.ref 0, .int (nI p), .int ow, gF] []) → ((gWh (fX9_couldBeAnother_14 og p ow hd osn) d i false) = true → P (hC tl tn rn rp ki ag co pa me so (nI sz) wa be pr dki dag dco dpa dme dso drs dwa dbe dpr nt nm nb nc nd ns np tnt tnm tnb tnc tnd tns tnp pf ph pst kh kst os og (nI hd) cs mo le se pk pc lf ab cu cd) (some (.int 1))) → G w gT0 al n mX9_couldBeAnother 0 0 P 0 0 (hC tl tn rn rp ki ag co pa me so (nI sz) wa be pr dki dag dco dpa dme dso drs dwa dbe dpr nt nm nb nc nd ns np tnt tnm tnb tnc tnd tns tnp pf ph pst kh kst os og (nI hd) cs mo le se pk pc lf ab cu cd) 14 [.ref 0, .int (nI p), .int ow, .int (nI i)] [] := by
  intro d
  induction d with
  | zero =>
    intro i hi k k2
    have hN : i = 100 := by omega
    rw [hN]
    rw [hN] at k
    refine g_iload_n dX9_couldBeAnother_14 rfl 15 rfl rfl ?_
    refine g_bipush 99 dX9_couldBeAnother_15 17 rfl (by decide) ?_
    refine g_icmp_gt dX9_couldBeAnother_17 47 rfl 20 rfl (fun _ => ?_) (fun c => absurd (by decide) c)
    refine g_fgt (L' := [.ref 0, .int (nI p), .int ow, gF]) ⟨Or.inl rfl, Or.inl rfl, Or.inl rfl, Or.inr rfl, trivial⟩ ?_
    exact k (by simp [gWh])
  | succ d ih =>
    intro i hi k k2
    refine g_iload_n dX9_couldBeAnother_14 rfl 15 rfl rfl ?_
    refine g_bipush 99 dX9_couldBeAnother_15 17 rfl (by decide) ?_
    refine g_icmp_gt dX9_couldBeAnother_17 47 rfl 20 rfl (fun c => absurd c (nI_nlt (a := 99) (by omega) (by omega))) (fun _ => ?_)
    refine g_iload_n dX9_couldBeAnother_20 rfl 21 rfl rfl ?_
    refine g_iload_n dX9_couldBeAnother_21 rfl 22 rfl rfl ?_
    refine g_icmp_eq dX9_couldBeAnother_22 41 rfl 25 rfl (fun c1 => ?_) (fun c1 => ?_)
    · refine g_iinc3 dX9_couldBeAnother_41 44 rfl 1 (by decide) (nI (i + 1)) (nI_add _ 1) (by decide) rfl ?_
      refine g_goto dX9_couldBeAnother_44 14 rfl ?_
      have e : (fX9_couldBeAnother_14 og p ow hd osn) i false = (false, false) := by rw [fX9_couldBeAnother_14, if_pos c1]
      rw [gWh_f e] at k k2
      refine ih (i + 1)  (by omega) k k2
    · refine g_aload_n dX9_couldBeAnother_25 rfl 26 rfl rfl ?_
      refine g_get (v := .ref 69) dX9_couldBeAnother_26 29 rfl lX9_62 rfl rfl ?_
      refine g_iload_n dX9_couldBeAnother_29 rfl 30 rfl rfl ?_
      refine g_iload_n dX9_couldBeAnother_30 rfl 31 rfl rfl ?_
      refine g_iload_n dX9_couldBeAnother_31 rfl 32 rfl rfl ?_
      refine g_isub dX9_couldBeAnother_32 33 rfl ?_
      refine g_cVv (as := [.int (nI p), .int ((nI i) - ow)]) (st := []) dX9_couldBeAnother_33 36 rfl kX9_232 ⟨Nat.le_of_ble_eq_true rfl, Nat.le_of_ble_eq_true rfl⟩ (MX8_isSoIf (hd := hd) p ((nI i) - ow) (by omega) (by omega) hos) rfl rfl rfl rfl (Nat.le_of_ble_eq_true rfl) (Nat.le_refl _) (Nat.le_refl _) ?_
      refine g_if_eq dX9_couldBeAnother_36 41 rfl 39 rfl (fun c2 => ?_) (fun c2 => ?_)
      · replace c2 := gB_f c2
        refine g_iinc3 dX9_couldBeAnother_41 44 rfl 1 (by decide) (nI (i + 1)) (nI_add _ 1) (by decide) rfl ?_
        refine g_goto dX9_couldBeAnother_44 14 rfl ?_
        have e : (fX9_couldBeAnother_14 og p ow hd osn) i false = (false, false) := by rw [fX9_couldBeAnother_14, if_neg c1, if_neg c2]
        rw [gWh_f e] at k k2
        refine ih (i + 1)  (by omega) k k2
      · replace c2 := gB_t c2
        refine g_iconst 1 dX9_couldBeAnother_39 40 rfl (by decide) ?_
        refine g_ireturn dX9_couldBeAnother_40 rfl rfl (Nat.le_refl _) (Nat.le_refl _) ?_
        have e : (fX9_couldBeAnother_14 og p ow hd osn) i false = (true, true) := by rw [fX9_couldBeAnother_14, if_neg c1, if_pos c2]
        rw [gWh_t e] at k2
        exact k2 rfl
def rX9_couldBeAnother (ag : Int32 → Int32) (og : Int32 → Int32) (p : Nat) (hd : Nat) (osn : Nat → Nat) : Bool := (if (gWh (fX9_couldBeAnother_14 og p (ag (nI p)) hd osn) 100 0 false) = true then true else false)
set_option maxRecDepth 100000 in
set_option maxHeartbeats 4000000 in
theorem MX9_couldBeAnother {w : gW} {al : Bool} {tl rn ki ag co pa me dki dag dco dpa dme nt tnt os og cs mo le se ab : Int32 → Int32} {tn rp so wa be pr dso drs dwa dbe dpr nm nb nc nd ns np tnm tnb tnc tnd tns tnp ph kh pk pc lf cu cd : Int32} {pf : Nat → Option Nat} {pst kst : Nat → gS} {hd sz : Nat} {osn : Nat → Nat} (p : Nat) (hhd : hd ≤ 5) (hp : p < 9) (hos : ∀ j, j < hd → os (nI j) = nI (osn j) ∧ osn j < 512)  : M w gT0 al mX9_couldBeAnother 0 0 (hC tl tn rn rp ki ag co pa me so (nI sz) wa be pr dki dag dco dpa dme dso drs dwa dbe dpr nt nm nb nc nd ns np tnt tnm tnb tnc tnd tns tnp pf ph pst kh kst os og (nI hd) cs mo le se pk pc lf ab cu cd) [.ref 0, .int (nI p)] (gEq (hC tl tn rn rp ki ag co pa me so (nI sz) wa be pr dki dag dco dpa dme dso drs dwa dbe dpr nt nm nb nc nd ns np tnt tnm tnb tnc tnd tns tnp pf ph pst kh kst os og (nI hd) cs mo le se pk pc lf ab cu cd) (some (.int (gB (rX9_couldBeAnother ag og p hd osn))))) := by
  refine M.of (L0 := [.ref 0, .int (nI p), gF, gF]) (by decide +kernel) (Nat.le_of_ble_eq_true rfl) rfl ?_
  refine g_aload_n dX9_couldBeAnother_0 rfl 1 rfl rfl ?_
  refine g_get (v := .ref 7) dX9_couldBeAnother_1 4 rfl lX9_28 rfl rfl ?_
  refine g_get (v := .ref 10) dX9_couldBeAnother_4 7 rfl lX9_131 rfl rfl ?_
  refine g_iload_n dX9_couldBeAnother_7 rfl 8 rfl rfl ?_
  refine g_cVv (as := [.int (nI p)]) (st := []) dX9_couldBeAnother_8 11 rfl kX9_125 ⟨Nat.le_of_ble_eq_true rfl, Nat.le_of_ble_eq_true rfl⟩ (MX3_atN (k := 10) (j := 11) (N := 9) (f := ag) rfl rfl (by decide) p (by omega)) rfl rfl rfl rfl (Nat.le_of_ble_eq_true rfl) (Nat.le_refl _) (Nat.le_refl _) ?_
  refine g_istore2 dX9_couldBeAnother_11 12 rfl (by decide) rfl ?_
  refine g_iconst 0 dX9_couldBeAnother_12 13 rfl (by decide) ?_
  refine g_istore3 dX9_couldBeAnother_13 14 rfl (by decide) rfl ?_
  refine LX9_couldBeAnother_14 (p := p) (by omega) (by omega) hos 100 0  (by omega) (fun c1 => ?_) (fun c1 => ?_)
  · refine g_iconst 0 dX9_couldBeAnother_47 48 rfl (by decide) ?_
    refine g_ireturn dX9_couldBeAnother_48 rfl rfl (Nat.le_refl _) (Nat.le_refl _) ?_
    have e : (rX9_couldBeAnother ag og p hd osn) = false := by rw [rX9_couldBeAnother, if_neg c1]
    rw [e]
    try dsimp only
    exact ⟨rfl, rfl⟩
  · have e : (rX9_couldBeAnother ag og p hd osn) = true := by rw [rX9_couldBeAnother, if_pos c1]
    rw [e]
    try dsimp only
    exact ⟨rfl, rfl⟩
def fX9_age_25 (ag : Int32 → Int32) (og : Int32 → Int32) (p : Nat) (what : Int32) (hd : Nat) (osn : Nat → Nat) : Nat → (Int32) → (Int32)
  | i, u0 => (if (rX8_isSoIf og p ((nI i) - (ag (nI p))) hd osn) = true then (if what = 1 then (nI i) else (if u0 = (-4) then (nI i) else u0)) else u0)
set_option maxRecDepth 100000 in
set_option maxHeartbeats 4000000 in
theorem LX9_age_25 {w : gW} {al : Bool} {tl rn ki ag co pa me dki dag dco dpa dme nt tnt os og cs mo le se ab : Int32 → Int32} {tn rp so wa be pr dso drs dwa dbe dpr nm nb nc nd ns np tnm tnb tnc tnd tns tnp ph kh pk pc lf cu cd : Int32} {pf : Nat → Option Nat} {pst kst : Nat → gS} {n : Nat} {P : gP} {hd sz : Nat} {osn : Nat → Nat} {p : Nat} {what : Int32} (hhd : hd ≤ 5) (hp : p < 9) (hos : ∀ j, j < hd → os (nI j) = nI (osn j) ∧ osn j < 512)  : ∀ (d i : Nat) (u0 : Int32), i + d = 100 → G w gT0 al n mX9_age 0 0 P 0 0 (hC tl tn rn rp ki ag co pa me so (nI sz) wa be pr dki dag dco dpa dme dso drs dwa dbe dpr nt nm nb nc nd ns np tnt tnm tnb tnc tnd tns tnp pf ph pst kh kst os og (nI hd) cs mo le se pk pc lf ab cu cd) 77 [.ref 0, .int (nI p), .int what, .int (gLp (fX9_age_25 ag og p what hd osn) d i u0), .int (nI 100)] [] → G w gT0 al n mX9_age 0 0 P 0 0 (hC tl tn rn rp ki ag co pa me so (nI sz) wa be pr dki dag dco dpa dme dso drs dwa dbe dpr nt nm nb nc nd ns np tnt tnm tnb tnc tnd tns tnp pf ph pst kh kst os og (nI hd) cs mo le se pk pc lf ab cu cd) 25 [.ref 0, .int (nI p), .int what, .int u0, .int (nI i)] [] := by
  intro d
  induction d with
  | zero =>
    intro i u0 hi k
    have hN : i = 100 := by omega
    rw [hN]
    rw [hN] at k
    refine g_iload dX9_age_25 27 rfl rfl ?_
    refine g_bipush 99 dX9_age_27 29 rfl (by decide) ?_
    refine g_icmp_gt dX9_age_29 77 rfl 32 rfl (fun _ => ?_) (fun c => absurd (by decide) c)
    exact k
  | succ d ih =>
    intro i u0 hi k
    refine g_iload dX9_age_25 27 rfl rfl ?_
    refine g_bipush 99 dX9_age_27 29 rfl (by decide) ?_
    refine g_icmp_gt dX9_age_29 77 rfl 32 rfl (fun c => absurd c (nI_nlt (a := 99) (by omega) (by omega))) (fun _ => ?_)
    refine g_aload_n dX9_age_32 rfl 33 rfl rfl ?_
    refine g_get (v := .ref 69) dX9_age_33 36 rfl lX9_62 rfl rfl ?_
    refine g_iload_n dX9_age_36 rfl 37 rfl rfl ?_
    refine g_iload dX9_age_37 39 rfl rfl ?_
    refine g_aload_n dX9_age_39 rfl 40 rfl rfl ?_
    refine g_get (v := .ref 7) dX9_age_40 43 rfl lX9_28 rfl rfl ?_
    refine g_get (v := .ref 10) dX9_age_43 46 rfl lX9_131 rfl rfl ?_
    refine g_iload_n dX9_age_46 rfl 47 rfl rfl ?_
    refine g_cVv (as := [.int (nI p)]) (st := [.int (nI i), .int (nI p), .ref 69]) dX9_age_47 50 rfl kX9_125 ⟨Nat.le_of_ble_eq_true rfl, Nat.le_of_ble_eq_true rfl⟩ (MX3_atN (k := 10) (j := 11) (N := 9) (f := ag) rfl rfl (by decide) p (by omega)) rfl rfl rfl rfl (Nat.le_of_ble_eq_true rfl) (Nat.le_refl _) (Nat.le_refl _) ?_
    refine g_isub dX9_age_50 51 rfl ?_
    refine g_cVv (as := [.int (nI p), .int ((nI i) - (ag (nI p)))]) (st := []) dX9_age_51 54 rfl kX9_232 ⟨Nat.le_of_ble_eq_true rfl, Nat.le_of_ble_eq_true rfl⟩ (MX8_isSoIf (hd := hd) p ((nI i) - (ag (nI p))) (by omega) (by omega) hos) rfl rfl rfl rfl (Nat.le_of_ble_eq_true rfl) (Nat.le_refl _) (Nat.le_refl _) ?_
    refine g_if_eq dX9_age_54 71 rfl 57 rfl (fun c1 => ?_) (fun c1 => ?_)
    · replace c1 := gB_f c1
      refine g_iinc4 dX9_age_71 74 rfl 1 (by decide) (nI (i + 1)) (nI_add _ 1) (by decide) rfl ?_
      refine g_goto dX9_age_74 25 rfl ?_
      have e : (fX9_age_25 ag og p what hd osn) i u0 = u0 := by rw [fX9_age_25, if_neg c1]
      refine ih (i + 1) u0 (by omega) ?_
      rw [← e]
      exact k
    · replace c1 := gB_t c1
      refine g_iload_n dX9_age_57 rfl 58 rfl rfl ?_
      refine g_iconst 1 dX9_age_58 59 rfl (by decide) ?_
      refine g_icmp_eq dX9_age_59 68 rfl 62 rfl (fun c2 => ?_) (fun c2 => ?_)
      · refine g_iload dX9_age_68 70 rfl rfl ?_
        refine g_istore3 dX9_age_70 71 rfl (by decide) rfl ?_
        refine g_iinc4 dX9_age_71 74 rfl 1 (by decide) (nI (i + 1)) (nI_add _ 1) (by decide) rfl ?_
        refine g_goto dX9_age_74 25 rfl ?_
        have e : (fX9_age_25 ag og p what hd osn) i u0 = (nI i) := by rw [fX9_age_25, if_pos c1, if_pos c2]
        refine ih (i + 1) (nI i) (by omega) ?_
        rw [← e]
        exact k
      · refine g_iload_n dX9_age_62 rfl 63 rfl rfl ?_
        refine g_bipush (-4) dX9_age_63 65 rfl (by decide) ?_
        refine g_icmp_ne dX9_age_65 71 rfl 68 rfl (fun c3 => ?_) (fun c3 => ?_)
        · refine g_iinc4 dX9_age_71 74 rfl 1 (by decide) (nI (i + 1)) (nI_add _ 1) (by decide) rfl ?_
          refine g_goto dX9_age_74 25 rfl ?_
          have e : (fX9_age_25 ag og p what hd osn) i u0 = u0 := by rw [fX9_age_25, if_pos c1, if_neg c2, if_neg c3]
          refine ih (i + 1) u0 (by omega) ?_
          rw [← e]
          exact k
        · refine g_iload dX9_age_68 70 rfl rfl ?_
          refine g_istore3 dX9_age_70 71 rfl (by decide) rfl ?_
          refine g_iinc4 dX9_age_71 74 rfl 1 (by decide) (nI (i + 1)) (nI_add _ 1) (by decide) rfl ?_
          refine g_goto dX9_age_74 25 rfl ?_
          have e : (fX9_age_25 ag og p what hd osn) i u0 = (nI i) := by rw [fX9_age_25, if_pos c1, if_neg c2, if_pos c3]
          refine ih (i + 1) (nI i) (by omega) ?_
          rw [← e]
          exact k
def rX9_age (ag : Int32 → Int32) (og : Int32 → Int32) (p : Nat) (what : Int32) (hd : Nat) (osn : Nat → Nat) : Int32 := (if what < 0 then (-1) else (if what ≤ 1 then (gLp (fX9_age_25 ag og p what hd osn) 100 0 (-4)) else (-1)))
set_option maxRecDepth 100000 in
set_option maxHeartbeats 4000000 in
theorem MX9_age {w : gW} {al : Bool} {tl rn ki ag co pa me dki dag dco dpa dme nt tnt os og cs mo le se ab : Int32 → Int32} {tn rp so wa be pr dso drs dwa dbe dpr nm nb nc nd ns np tnm tnb tnc tnd tns tnp ph kh pk pc lf cu cd : Int32} {pf : Nat → Option Nat} {pst kst : Nat → gS} {hd sz : Nat} {osn : Nat → Nat} (p : Nat) (what : Int32) (hhd : hd ≤ 5) (hp : p < 9) (hos : ∀ j, j < hd → os (nI j) = nI (osn j) ∧ osn j < 512) (hv : (rX9_isPerson (nI p) sz) = true)  : M w gT0 al mX9_age 0 0 (hC tl tn rn rp ki ag co pa me so (nI sz) wa be pr dki dag dco dpa dme dso drs dwa dbe dpr nt nm nb nc nd ns np tnt tnm tnb tnc tnd tns tnp pf ph pst kh kst os og (nI hd) cs mo le se pk pc lf ab cu cd) [.ref 0, .int (nI p), .int what] (gEq (hC tl tn rn rp ki ag co pa me so (nI sz) wa be pr dki dag dco dpa dme dso drs dwa dbe dpr nt nm nb nc nd ns np tnt tnm tnb tnc tnd tns tnp pf ph pst kh kst os og (nI hd) cs mo le se pk pc lf ab cu cd) (some (.int (rX9_age ag og p what hd osn)))) := by
  refine M.of (L0 := [.ref 0, .int (nI p), .int what, gF, gF]) (by decide +kernel) (Nat.le_of_ble_eq_true rfl) rfl ?_
  refine g_aload_n dX9_age_0 rfl 1 rfl rfl ?_
  refine g_iload_n dX9_age_1 rfl 2 rfl rfl ?_
  refine g_cVv (as := [.int (nI p)]) (st := []) dX9_age_2 5 rfl kX9_117 ⟨Nat.le_of_ble_eq_true rfl, Nat.le_of_ble_eq_true rfl⟩ (MX9_isPerson (sz := sz) (nI p)) rfl rfl rfl rfl (Nat.le_of_ble_eq_true rfl) (Nat.le_refl _) (Nat.le_refl _) ?_
  refine g_if_eq dX9_age_5 17 rfl 8 rfl (fun c => absurd c (gB_1 hv)) (fun _ => ?_)
  refine g_iload_n dX9_age_8 rfl 9 rfl rfl ?_
  refine g_if_lt dX9_age_9 17 rfl 12 rfl (fun c1 => ?_) (fun c1 => ?_)
  · refine g_iconst (-1) dX9_age_17 18 rfl (by decide) ?_
    refine g_ireturn dX9_age_18 rfl rfl (Nat.le_refl _) (Nat.le_refl _) ?_
    have e : (rX9_age ag og p what hd osn) = (-1) := by rw [rX9_age, if_pos c1]
    rw [e]
    try dsimp only
    exact ⟨rfl, rfl⟩
  · refine g_iload_n dX9_age_12 rfl 13 rfl rfl ?_
    refine g_iconst 1 dX9_age_13 14 rfl (by decide) ?_
    refine g_icmp_le dX9_age_14 19 rfl 17 rfl (fun c2 => ?_) (fun c2 => ?_)
    · refine g_bipush (-4) dX9_age_19 21 rfl (by decide) ?_
      refine g_istore3 dX9_age_21 22 rfl (by decide) rfl ?_
      refine g_iconst 0 dX9_age_22 23 rfl (by decide) ?_
      refine g_istore4 dX9_age_23 25 rfl (by decide) rfl ?_
      refine LX9_age_25 (p := p) (by omega) (by omega) hos 100 0 (-4) (by omega) ?_
      refine g_iload_n dX9_age_77 rfl 78 rfl rfl ?_
      refine g_ireturn dX9_age_78 rfl rfl (Nat.le_refl _) (Nat.le_refl _) ?_
      have e : (rX9_age ag og p what hd osn) = (gLp (fX9_age_25 ag og p what hd osn) 100 0 (-4)) := by rw [rX9_age, if_neg c1, if_pos c2]
      rw [e]
      try dsimp only
      exact ⟨rfl, rfl⟩
    · refine g_iconst (-1) dX9_age_17 18 rfl (by decide) ?_
      refine g_ireturn dX9_age_18 rfl rfl (Nat.le_refl _) (Nat.le_refl _) ?_
      have e : (rX9_age ag og p what hd osn) = (-1) := by rw [rX9_age, if_neg c1, if_neg c2]
      rw [e]
      try dsimp only
      exact ⟨rfl, rfl⟩
def rX9_age_x  : Int32 := (-1)
set_option maxRecDepth 100000 in
set_option maxHeartbeats 4000000 in
theorem MX9_age_x {w : gW} {al : Bool} {tl rn ki ag co pa me dki dag dco dpa dme nt tnt os og cs mo le se ab : Int32 → Int32} {tn rp so wa be pr dso drs dwa dbe dpr nm nb nc nd ns np tnm tnb tnc tnd tns tnp ph kh pk pc lf cu cd : Int32} {pf : Nat → Option Nat} {pst kst : Nat → gS} {hd sz : Nat} {osn : Nat → Nat} (p : Int32) (what : Int32) (hv : ¬ (rX9_isPerson p sz) = true)  : M w gT0 al mX9_age 0 0 (hC tl tn rn rp ki ag co pa me so (nI sz) wa be pr dki dag dco dpa dme dso drs dwa dbe dpr nt nm nb nc nd ns np tnt tnm tnb tnc tnd tns tnp pf ph pst kh kst os og (nI hd) cs mo le se pk pc lf ab cu cd) [.ref 0, .int p, .int what] (gEq (hC tl tn rn rp ki ag co pa me so (nI sz) wa be pr dki dag dco dpa dme dso drs dwa dbe dpr nt nm nb nc nd ns np tnt tnm tnb tnc tnd tns tnp pf ph pst kh kst os og (nI hd) cs mo le se pk pc lf ab cu cd) (some (.int rX9_age_x))) := by
  refine M.of (L0 := [.ref 0, .int p, .int what, gF, gF]) (by decide +kernel) (Nat.le_of_ble_eq_true rfl) rfl ?_
  refine g_aload_n dX9_age_0 rfl 1 rfl rfl ?_
  refine g_iload_n dX9_age_1 rfl 2 rfl rfl ?_
  refine g_cVv (as := [.int p]) (st := []) dX9_age_2 5 rfl kX9_117 ⟨Nat.le_of_ble_eq_true rfl, Nat.le_of_ble_eq_true rfl⟩ (MX9_isPerson (sz := sz) p) rfl rfl rfl rfl (Nat.le_of_ble_eq_true rfl) (Nat.le_refl _) (Nat.le_refl _) ?_
  refine g_if_eq dX9_age_5 17 rfl 8 rfl (fun _ => ?_) (fun c => absurd (gB_0 hv) c)
  refine g_iconst (-1) dX9_age_17 18 rfl (by decide) ?_
  refine g_ireturn dX9_age_18 rfl rfl (Nat.le_refl _) (Nat.le_refl _) ?_
  have e : rX9_age_x = (-1) := by rw [rX9_age_x]
  rw [e]
  try dsimp only
  exact ⟨rfl, rfl⟩
