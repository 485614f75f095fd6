/-! the class: AgesFerry, who may have lied -/
def fX9_liar_22 (ag : Int32 → Int32) (og : Int32 → Int32) (hd : Nat) (osn : Nat → Nat) : Nat → (Nat) → (Nat)
  | i, u0 => (if (rX9_couldBeAnother ag og i hd osn) = true then (u0 ||| (2 ^ i)) else u0)
set_option maxRecDepth 100000 in
set_option maxHeartbeats 4000000 in
theorem LX9_liar_22 {w : gW} {al : Bool} {tl rn ki ag co pa me dki dag dco dpa dme nt tnt os og cs mo le se ab : Int32 → Int32} {tn rp so wa be pr dso drs dwa dbe dpr nm nb nc nd ns np tnm tnb tnc tnd tns tnp ph kh pk pc lf cu cd : Int32} {pf : Nat → Option Nat} {pst kst : Nat → gS} {n : Nat} {P : gP} {hd sz : Nat} {osn : Nat → Nat} (hs : sz ≤ 9) (hhd : hd ≤ 5) (hos : ∀ j, j < hd → os (nI j) = nI (osn j) ∧ osn j < 512)  : ∀ (d i : Nat) (u0 : Nat), i + d = sz → G w gT0 al n mX9_liar 0 0 P 0 0 (hC tl tn rn rp ki ag co pa me so (nI sz) wa be pr dki dag dco dpa dme dso drs dwa dbe dpr nt nm nb nc nd ns np tnt tnm tnb tnc tnd tns tnp pf ph pst kh kst os og (nI hd) cs mo le se pk pc lf ab cu cd) 53 [.ref 0, .int (nI (gLp (fX9_liar_22 ag og hd osn) d i u0)), .int (nI sz)] [] → G w gT0 al n mX9_liar 0 0 P 0 0 (hC tl tn rn rp ki ag co pa me so (nI sz) wa be pr dki dag dco dpa dme dso drs dwa dbe dpr nt nm nb nc nd ns np tnt tnm tnb tnc tnd tns tnp pf ph pst kh kst os og (nI hd) cs mo le se pk pc lf ab cu cd) 22 [.ref 0, .int (nI u0), .int (nI i)] [] := by
  intro d
  induction d with
  | zero =>
    intro i u0 hi k
    have hN : i = sz := by omega
    rw [hN]
    rw [hN] at k
    refine g_iload_n dX9_liar_22 rfl 23 rfl rfl ?_
    refine g_aload_n dX9_liar_23 rfl 24 rfl rfl ?_
    refine g_get (v := .ref 7) dX9_liar_24 27 rfl lX9_28 rfl rfl ?_
    refine g_get (v := .int (nI sz)) dX9_liar_27 30 rfl lX9_108 rfl rfl ?_
    refine g_icmp_ge dX9_liar_30 53 rfl 33 rfl (fun _ => ?_) (fun c => absurd (nI_le (Nat.le_refl _) (by omega)) c)
    exact k
  | succ d ih =>
    intro i u0 hi k
    refine g_iload_n dX9_liar_22 rfl 23 rfl rfl ?_
    refine g_aload_n dX9_liar_23 rfl 24 rfl rfl ?_
    refine g_get (v := .ref 7) dX9_liar_24 27 rfl lX9_28 rfl rfl ?_
    refine g_get (v := .int (nI sz)) dX9_liar_27 30 rfl lX9_108 rfl rfl ?_
    refine g_icmp_ge dX9_liar_30 53 rfl 33 rfl (fun c => absurd c (nI_ge (by omega) (by omega))) (fun _ => ?_)
    refine g_aload_n dX9_liar_33 rfl 34 rfl rfl ?_
    refine g_iload_n dX9_liar_34 rfl 35 rfl rfl ?_
    refine g_cVv (as := [.int (nI i)]) (st := []) dX9_liar_35 38 rfl kX9_235 ⟨Nat.le_of_ble_eq_true rfl, Nat.le_of_ble_eq_true rfl⟩ (MX9_couldBeAnother (hd := hd) (sz := sz) i (by omega) (by omega) hos) rfl rfl rfl rfl (Nat.le_of_ble_eq_true rfl) (Nat.le_refl _) (Nat.le_refl _) ?_
    refine g_if_eq dX9_liar_38 47 rfl 41 rfl (fun c1 => ?_) (fun c1 => ?_)
    · replace c1 := gB_f c1
      refine g_iinc2 dX9_liar_47 50 rfl 1 (by decide) (nI (i + 1)) (nI_add _ 1) (by decide) rfl ?_
      refine g_goto dX9_liar_50 22 rfl ?_
      have e : (fX9_liar_22 ag og hd osn) i u0 = u0 := by rw [fX9_liar_22, if_neg c1]
      refine ih (i + 1) u0 (by omega) ?_
      rw [← e]
      exact k
    · replace c1 := gB_t c1
      refine g_iload_n dX9_liar_41 rfl 42 rfl rfl ?_
      refine g_iconst 1 dX9_liar_42 43 rfl (by decide) ?_
      refine g_iload_n dX9_liar_43 rfl 44 rfl rfl ?_
      refine g_ishl' dX9_liar_44 45 rfl (nI (2 ^ i)) (z_1shl (by omega)) ?_
      refine g_ior' dX9_liar_45 46 rfl (nI (u0 ||| (2 ^ i))) (z_or _ _) ?_
      refine g_istore1 dX9_liar_46 47 rfl (by decide) rfl ?_
      refine g_iinc2 dX9_liar_47 50 rfl 1 (by decide) (nI (i + 1)) (nI_add _ 1) (by decide) rfl ?_
      refine g_goto dX9_liar_50 22 rfl ?_
      have e : (fX9_liar_22 ag og hd osn) i u0 = (u0 ||| (2 ^ i)) := by rw [fX9_liar_22, if_pos c1]
      refine ih (i + 1) (u0 ||| (2 ^ i)) (by omega) ?_
      rw [← e]
      exact k
def rX9_liar (ag : Int32 → Int32) (og : Int32 → Int32) (hd : Nat) (sz : Nat) (osn : Nat → Nat) : Int32 := (if (rX8_isSoIf og 0 0 hd osn) = true then (nI (gLp (fX9_liar_22 ag og hd osn) sz 0 512)) else (nI (gLp (fX9_liar_22 ag og hd osn) sz 0 0)))
set_option maxRecDepth 100000 in
set_option maxHeartbeats 4000000 in
theorem MX9_liar {w : gW} {al : Bool} {tl rn ki ag co pa me dki dag dco dpa dme nt tnt os og cs mo le se ab : Int32 → Int32} {tn rp so wa be pr dso drs dwa dbe dpr nm nb nc nd ns np tnm tnb tnc tnd tns tnp ph kh pk pc lf cu cd : Int32} {pf : Nat → Option Nat} {pst kst : Nat → gS} {hd sz : Nat} {osn : Nat → Nat} (hs : sz ≤ 9) (hhd : hd ≤ 5) (hos : ∀ j, j < hd → os (nI j) = nI (osn j) ∧ osn j < 512)  : M w gT0 al mX9_liar 0 0 (hC tl tn rn rp ki ag co pa me so (nI sz) wa be pr dki dag dco dpa dme dso drs dwa dbe dpr nt nm nb nc nd ns np tnt tnm tnb tnc tnd tns tnp pf ph pst kh kst os og (nI hd) cs mo le se pk pc lf ab cu cd) [.ref 0] (gEq (hC tl tn rn rp ki ag co pa me so (nI sz) wa be pr dki dag dco dpa dme dso drs dwa dbe dpr nt nm nb nc nd ns np tnt tnm tnb tnc tnd tns tnp pf ph pst kh kst os og (nI hd) cs mo le se pk pc lf ab cu cd) (some (.int (rX9_liar ag og hd sz osn)))) := by
  refine M.of (L0 := [.ref 0, gF, gF]) (by decide +kernel) (Nat.le_of_ble_eq_true rfl) rfl ?_
  refine g_aload_n dX9_liar_0 rfl 1 rfl rfl ?_
  refine g_get (v := .ref 69) dX9_liar_1 4 rfl lX9_62 rfl rfl ?_
  refine g_iconst 0 dX9_liar_4 5 rfl (by decide) ?_
  refine g_iconst 0 dX9_liar_5 6 rfl (by decide) ?_
  refine g_cVv (as := [.int 0, .int 0]) (st := []) dX9_liar_6 9 rfl kX9_232 ⟨Nat.le_of_ble_eq_true rfl, Nat.le_of_ble_eq_true rfl⟩ (MX8_isSoIf (hd := hd) 0 0 (by omega) (by omega) hos) rfl rfl rfl rfl (Nat.le_of_ble_eq_true rfl) (Nat.le_refl _) (Nat.le_refl _) ?_
  refine g_if_eq dX9_liar_9 18 rfl 12 rfl (fun c1 => ?_) (fun c1 => ?_)
  · replace c1 := gB_f c1
    refine g_iconst 0 dX9_liar_18 19 rfl (by decide) ?_
    refine g_istore1 dX9_liar_19 20 rfl (by decide) rfl ?_
    refine g_iconst 0 dX9_liar_20 21 rfl (by decide) ?_
    refine g_istore2 dX9_liar_21 22 rfl (by decide) rfl ?_
    refine LX9_liar_22  (by omega) (by omega) hos sz 0 0 (by omega) ?_
    refine g_iload_n dX9_liar_53 rfl 54 rfl rfl ?_
    refine g_ireturn dX9_liar_54 rfl rfl (Nat.le_refl _) (Nat.le_refl _) ?_
    have e : (rX9_liar ag og hd sz osn) = (nI (gLp (fX9_liar_22 ag og hd osn) sz 0 0)) := by rw [rX9_liar, if_neg c1]
    rw [e]
    try dsimp only
    exact ⟨rfl, rfl⟩
  · replace c1 := gB_t c1
    refine g_sipush 512 dX9_liar_12 15 rfl (by decide) ?_
    refine g_goto dX9_liar_15 19 rfl ?_
    refine g_istore1 dX9_liar_19 20 rfl (by decide) rfl ?_
    refine g_iconst 0 dX9_liar_20 21 rfl (by decide) ?_
    refine g_istore2 dX9_liar_21 22 rfl (by decide) rfl ?_
    refine LX9_liar_22  (by omega) (by omega) hos sz 0 512 (by omega) ?_
    refine g_iload_n dX9_liar_53 rfl 54 rfl rfl ?_
    refine g_ireturn dX9_liar_54 rfl rfl (Nat.le_refl _) (Nat.le_refl _) ?_
    have e : (rX9_liar ag og hd sz osn) = (nI (gLp (fX9_liar_22 ag og hd osn) sz 0 512)) := by rw [rX9_liar, if_pos c1]
    rw [e]
    try dsimp only
    exact ⟨rfl, rfl⟩
