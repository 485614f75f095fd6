/-! the class: Sets, the packing and the totals -/
def rX4_nearer (wa : Int32) (on : Int32) (ol : Int32) : Int32 := (if (absI (on - wa)) = (absI (ol - wa)) then (minI on ol) else (if (absI (ol - wa)) ≤ (absI (on - wa)) then ol else on))
set_option maxRecDepth 100000 in
set_option maxHeartbeats 4000000 in
theorem MX4_nearer {w : gW} {al : Bool} {tl rn ki ag co pa me dki dag dco dpa dme nt tnt os og cs mo le se ab : Int32 → Int32} {tn rp so rs wa be pr dso drs dwa dbe dpr nm nb nc nd ns np tnm tnb tnc tnd tns tnp ph kh oh pk pc lf cu cd : Int32} {pf : Nat → Option Nat} {pst kst : Nat → gS}  (on : Int32) (ol : Int32)  : M w gT0 al mX4_nearer 0 0 (hC tl tn rn rp ki ag co pa me so rs wa be pr dki dag dco dpa dme dso drs dwa dbe dpr nt nm nb nc nd ns np tnt tnm tnb tnc tnd tns tnp pf ph pst kh kst os og oh cs mo le se pk pc lf ab cu cd) [.ref 74, .int on, .int ol] (gEq (hC tl tn rn rp ki ag co pa me so rs wa be pr dki dag dco dpa dme dso drs dwa dbe dpr nt nm nb nc nd ns np tnt tnm tnb tnc tnd tns tnp pf ph pst kh kst os og oh cs mo le se pk pc lf ab cu cd) (some (.int (rX4_nearer wa on ol)))) := by
  refine M.of (L0 := [.ref 74, .int on, .int ol, gF, gF]) (by decide +kernel) (Nat.le_of_ble_eq_true rfl) rfl ?_
  refine g_iload_n dX4_nearer_0 rfl 1 rfl rfl ?_
  refine g_aload_n dX4_nearer_1 rfl 2 rfl rfl ?_
  refine g_get (v := .ref 7) dX4_nearer_2 5 rfl lX4_29 rfl rfl ?_
  refine g_get (v := .int wa) dX4_nearer_5 8 rfl lX4_123 rfl rfl ?_
  refine g_isub dX4_nearer_8 9 rfl ?_
  refine g_mabs dX4_nearer_9 12 rfl qX4_126 (by decide) (by decide) (Nat.le_of_ble_eq_true rfl) (Nat.le_refl _) (Nat.le_refl _) (absI (on - wa)) rfl ?_
  refine g_istore3 dX4_nearer_12 13 rfl (by decide) rfl ?_
  refine g_iload_n dX4_nearer_13 rfl 14 rfl rfl ?_
  refine g_aload_n dX4_nearer_14 rfl 15 rfl rfl ?_
  refine g_get (v := .ref 7) dX4_nearer_15 18 rfl lX4_29 rfl rfl ?_
  refine g_get (v := .int wa) dX4_nearer_18 21 rfl lX4_123 rfl rfl ?_
  refine g_isub dX4_nearer_21 22 rfl ?_
  refine g_mabs dX4_nearer_22 25 rfl qX4_126 (by decide) (by decide) (Nat.le_of_ble_eq_true rfl) (Nat.le_refl _) (Nat.le_refl _) (absI (ol - wa)) rfl ?_
  refine g_istore4 dX4_nearer_25 27 rfl (by decide) rfl ?_
  refine g_iload_n dX4_nearer_27 rfl 28 rfl rfl ?_
  refine g_iload dX4_nearer_28 30 rfl rfl ?_
  refine g_icmp_ne dX4_nearer_30 39 rfl 33 rfl (fun c1 => ?_) (fun c1 => ?_)
  · refine g_iload_n dX4_nearer_39 rfl 40 rfl rfl ?_
    refine g_iload dX4_nearer_40 42 rfl rfl ?_
    refine g_icmp_ge dX4_nearer_42 49 rfl 45 rfl (fun c2 => ?_) (fun c2 => ?_)
    · refine g_iload_n dX4_nearer_49 rfl 50 rfl rfl ?_
      refine g_ireturn dX4_nearer_50 rfl rfl (Nat.le_refl _) (Nat.le_refl _) ?_
      have e : (rX4_nearer wa on ol) = ol := by rw [rX4_nearer, if_neg c1, if_pos c2]
      rw [e]
      exact ⟨rfl, rfl⟩
    · refine g_iload_n dX4_nearer_45 rfl 46 rfl rfl ?_
      refine g_goto dX4_nearer_46 50 rfl ?_
      refine g_ireturn dX4_nearer_50 rfl rfl (Nat.le_refl _) (Nat.le_refl _) ?_
      have e : (rX4_nearer wa on ol) = on := by rw [rX4_nearer, if_neg c1, if_neg c2]
      rw [e]
      exact ⟨rfl, rfl⟩
  · refine g_iload_n dX4_nearer_33 rfl 34 rfl rfl ?_
    refine g_iload_n dX4_nearer_34 rfl 35 rfl rfl ?_
    refine g_mmin dX4_nearer_35 38 rfl qX4_75 (by decide) (by decide) (Nat.le_of_ble_eq_true rfl) (Nat.le_refl _) (Nat.le_refl _) (minI on ol) rfl ?_
    refine g_ireturn dX4_nearer_38 rfl rfl (Nat.le_refl _) (Nat.le_refl _) ?_
    have e : (rX4_nearer wa on ol) = (minI on ol) := by rw [rX4_nearer, if_pos c1]
    rw [e]
    exact ⟨rfl, rfl⟩
def rX4_compareWay (mo : Int32 → Int32) (le : Int32 → Int32) (pk : Int32) (pc : Int32) (lf : Int32) (a : Nat) (ub : Int32) : Int32 × Int32 × Int32 := (if (mo (nI a)) = pk then (if (le (nI a)) = pc then (if lf ≤ ub then (pk, pc, lf) else ((mo (nI a)), (le (nI a)), ub)) else (if pc ≤ (le (nI a)) then (pk, pc, lf) else ((mo (nI a)), (le (nI a)), ub))) else (if (mo (nI a)) ≤ pk then (pk, pc, lf) else ((mo (nI a)), (le (nI a)), ub)))
set_option maxRecDepth 100000 in
set_option maxHeartbeats 4000000 in
theorem MX4_compareWay {w : gW} {al : Bool} {tl rn ki ag co pa me dki dag dco dpa dme nt tnt os og cs mo le se ab : Int32 → Int32} {tn rp so rs wa be pr dso drs dwa dbe dpr nm nb nc nd ns np tnm tnb tnc tnd tns tnp ph kh oh pk pc lf cu cd : Int32} {pf : Nat → Option Nat} {pst kst : Nat → gS}  (a : Nat) (ub : Int32) (ha : a < 512)  : M w gT0 al mX4_compareWay 0 0 (hC tl tn rn rp ki ag co pa me so rs wa be pr dki dag dco dpa dme dso drs dwa dbe dpr nt nm nb nc nd ns np tnt tnm tnb tnc tnd tns tnp pf ph pst kh kst os og oh cs mo le se pk pc lf ab cu cd) [.ref 74, .int (nI a), .int ub] (gEq (hC tl tn rn rp ki ag co pa me so rs wa be pr dki dag dco dpa dme dso drs dwa dbe dpr nt nm nb nc nd ns np tnt tnm tnb tnc tnd tns tnp pf ph pst kh kst os og oh cs mo le se ((rX4_compareWay mo le pk pc lf a ub).1) ((rX4_compareWay mo le pk pc lf a ub).2.1) ((rX4_compareWay mo le pk pc lf a ub).2.2) ab cu cd) none) := by
  refine M.of (L0 := [.ref 74, .int (nI a), .int ub, gF, gF, gF]) (by decide +kernel) (Nat.le_of_ble_eq_true rfl) rfl ?_
  refine g_aload_n dX4_compareWay_0 rfl 1 rfl rfl ?_
  refine g_get (v := .ref 77) dX4_compareWay_1 4 rfl lX4_20 rfl rfl ?_
  refine g_iload_n dX4_compareWay_4 rfl 5 rfl rfl ?_
  refine g_cVv (as := [.int (nI a)]) (st := []) dX4_compareWay_5 8 rfl kX4_58 ⟨Nat.le_of_ble_eq_true rfl, Nat.le_of_ble_eq_true rfl⟩ (MX3_atN (k := 77) (j := 78) (N := 512) (f := mo) rfl rfl (by decide) a (by omega)) rfl rfl rfl rfl (Nat.le_of_ble_eq_true rfl) (Nat.le_refl _) (Nat.le_refl _) ?_
  refine g_istore3 dX4_compareWay_8 9 rfl (by decide) rfl ?_
  refine g_aload_n dX4_compareWay_9 rfl 10 rfl rfl ?_
  refine g_get (v := .ref 79) dX4_compareWay_10 13 rfl lX4_23 rfl rfl ?_
  refine g_iload_n dX4_compareWay_13 rfl 14 rfl rfl ?_
  refine g_cVv (as := [.int (nI a)]) (st := []) dX4_compareWay_14 17 rfl kX4_58 ⟨Nat.le_of_ble_eq_true rfl, Nat.le_of_ble_eq_true rfl⟩ (MX3_atN (k := 79) (j := 80) (N := 512) (f := le) rfl rfl (by decide) a (by omega)) rfl rfl rfl rfl (Nat.le_of_ble_eq_true rfl) (Nat.le_refl _) (Nat.le_refl _) ?_
  refine g_istore4 dX4_compareWay_17 19 rfl (by decide) rfl ?_
  refine g_iload_n dX4_compareWay_19 rfl 20 rfl rfl ?_
  refine g_aload_n dX4_compareWay_20 rfl 21 rfl rfl ?_
  refine g_get (v := .int pk) dX4_compareWay_21 24 rfl lX4_99 rfl rfl ?_
  refine g_icmp_eq dX4_compareWay_24 43 rfl 27 rfl (fun c1 => ?_) (fun c1 => ?_)
  · refine g_iload dX4_compareWay_43 45 rfl rfl ?_
    refine g_aload_n dX4_compareWay_45 rfl 46 rfl rfl ?_
    refine g_get (v := .int pc) dX4_compareWay_46 49 rfl lX4_102 rfl rfl ?_
    refine g_icmp_eq dX4_compareWay_49 69 rfl 52 rfl (fun c2 => ?_) (fun c2 => ?_)
    · refine g_iload_n dX4_compareWay_69 rfl 70 rfl rfl ?_
      refine g_aload_n dX4_compareWay_70 rfl 71 rfl rfl ?_
      refine g_get (v := .int lf) dX4_compareWay_71 74 rfl lX4_105 rfl rfl ?_
      refine g_icmp_ge dX4_compareWay_74 81 rfl 77 rfl (fun c3 => ?_) (fun c3 => ?_)
      · refine g_iconst 0 dX4_compareWay_81 82 rfl (by decide) ?_
        refine g_istore5 dX4_compareWay_82 84 rfl (by decide) rfl ?_
        refine g_iload dX4_compareWay_84 86 rfl rfl ?_
        refine g_if_eq dX4_compareWay_86 105 rfl 89 rfl (fun _ => ?_) (fun c => absurd (by decide) c)
        refine g_return dX4_compareWay_105 rfl (Nat.le_refl _) (Nat.le_refl _) ?_
        have e : (rX4_compareWay mo le pk pc lf a ub) = (pk, pc, lf) := by rw [rX4_compareWay, if_pos c1, if_pos c2, if_pos c3]
        rw [e]
        exact ⟨rfl, rfl⟩
      · refine g_iconst 1 dX4_compareWay_77 78 rfl (by decide) ?_
        refine g_goto dX4_compareWay_78 82 rfl ?_
        refine g_istore5 dX4_compareWay_82 84 rfl (by decide) rfl ?_
        refine g_iload dX4_compareWay_84 86 rfl rfl ?_
        refine g_if_eq dX4_compareWay_86 105 rfl 89 rfl (fun c => absurd c (by decide)) (fun _ => ?_)
        refine g_aload_n dX4_compareWay_89 rfl 90 rfl rfl ?_
        refine g_iload_n dX4_compareWay_90 rfl 91 rfl rfl ?_
        refine g_put dX4_compareWay_91 94 rfl lX4_99 wrX4 rfl rfl rfl rfl rfl (Nat.le_of_ble_eq_true rfl) (h' := (hC tl tn rn rp ki ag co pa me so rs wa be pr dki dag dco dpa dme dso drs dwa dbe dpr nt nm nb nc nd ns np tnt tnm tnb tnc tnd tns tnp pf ph pst kh kst os og oh cs mo le se (mo (nI a)) pc lf ab cu cd)) rfl ?_
        refine g_aload_n dX4_compareWay_94 rfl 95 rfl rfl ?_
        refine g_iload dX4_compareWay_95 97 rfl rfl ?_
        refine g_put dX4_compareWay_97 100 rfl lX4_102 wrX4 rfl rfl rfl rfl rfl (Nat.le_of_ble_eq_true rfl) (h' := (hC tl tn rn rp ki ag co pa me so rs wa be pr dki dag dco dpa dme dso drs dwa dbe dpr nt nm nb nc nd ns np tnt tnm tnb tnc tnd tns tnp pf ph pst kh kst os og oh cs mo le se (mo (nI a)) (le (nI a)) lf ab cu cd)) rfl ?_
        refine g_aload_n dX4_compareWay_100 rfl 101 rfl rfl ?_
        refine g_iload_n dX4_compareWay_101 rfl 102 rfl rfl ?_
        refine g_put dX4_compareWay_102 105 rfl lX4_105 wrX4 rfl rfl rfl rfl rfl (Nat.le_of_ble_eq_true rfl) (h' := (hC tl tn rn rp ki ag co pa me so rs wa be pr dki dag dco dpa dme dso drs dwa dbe dpr nt nm nb nc nd ns np tnt tnm tnb tnc tnd tns tnp pf ph pst kh kst os og oh cs mo le se (mo (nI a)) (le (nI a)) ub ab cu cd)) rfl ?_
        refine g_return dX4_compareWay_105 rfl (Nat.le_refl _) (Nat.le_refl _) ?_
        have e : (rX4_compareWay mo le pk pc lf a ub) = ((mo (nI a)), (le (nI a)), ub) := by rw [rX4_compareWay, if_pos c1, if_pos c2, if_neg c3]
        rw [e]
        exact ⟨rfl, rfl⟩
    · refine g_iload dX4_compareWay_52 54 rfl rfl ?_
      refine g_aload_n dX4_compareWay_54 rfl 55 rfl rfl ?_
      refine g_get (v := .int pc) dX4_compareWay_55 58 rfl lX4_102 rfl rfl ?_
      refine g_icmp_ge dX4_compareWay_58 65 rfl 61 rfl (fun c4 => ?_) (fun c4 => ?_)
      · refine g_iconst 0 dX4_compareWay_65 66 rfl (by decide) ?_
        refine g_goto dX4_compareWay_66 82 rfl ?_
        refine g_istore5 dX4_compareWay_82 84 rfl (by decide) rfl ?_
        refine g_iload dX4_compareWay_84 86 rfl rfl ?_
        refine g_if_eq dX4_compareWay_86 105 rfl 89 rfl (fun _ => ?_) (fun c => absurd (by decide) c)
        refine g_return dX4_compareWay_105 rfl (Nat.le_refl _) (Nat.le_refl _) ?_
        have e : (rX4_compareWay mo le pk pc lf a ub) = (pk, pc, lf) := by rw [rX4_compareWay, if_pos c1, if_neg c2, if_pos c4]
        rw [e]
        exact ⟨rfl, rfl⟩
      · refine g_iconst 1 dX4_compareWay_61 62 rfl (by decide) ?_
        refine g_goto dX4_compareWay_62 82 rfl ?_
        refine g_istore5 dX4_compareWay_82 84 rfl (by decide) rfl ?_
        refine g_iload dX4_compareWay_84 86 rfl rfl ?_
        refine g_if_eq dX4_compareWay_86 105 rfl 89 rfl (fun c => absurd c (by decide)) (fun _ => ?_)
        refine g_aload_n dX4_compareWay_89 rfl 90 rfl rfl ?_
        refine g_iload_n dX4_compareWay_90 rfl 91 rfl rfl ?_
        refine g_put dX4_compareWay_91 94 rfl lX4_99 wrX4 rfl rfl rfl rfl rfl (Nat.le_of_ble_eq_true rfl) (h' := (hC tl tn rn rp ki ag co pa me so rs wa be pr dki dag dco dpa dme dso drs dwa dbe dpr nt nm nb nc nd ns np tnt tnm tnb tnc tnd tns tnp pf ph pst kh kst os og oh cs mo le se (mo (nI a)) pc lf ab cu cd)) rfl ?_
        refine g_aload_n dX4_compareWay_94 rfl 95 rfl rfl ?_
        refine g_iload dX4_compareWay_95 97 rfl rfl ?_
        refine g_put dX4_compareWay_97 100 rfl lX4_102 wrX4 rfl rfl rfl rfl rfl (Nat.le_of_ble_eq_true rfl) (h' := (hC tl tn rn rp ki ag co pa me so rs wa be pr dki dag dco dpa dme dso drs dwa dbe dpr nt nm nb nc nd ns np tnt tnm tnb tnc tnd tns tnp pf ph pst kh kst os og oh cs mo le se (mo (nI a)) (le (nI a)) lf ab cu cd)) rfl ?_
        refine g_aload_n dX4_compareWay_100 rfl 101 rfl rfl ?_
        refine g_iload_n dX4_compareWay_101 rfl 102 rfl rfl ?_
        refine g_put dX4_compareWay_102 105 rfl lX4_105 wrX4 rfl rfl rfl rfl rfl (Nat.le_of_ble_eq_true rfl) (h' := (hC tl tn rn rp ki ag co pa me so rs wa be pr dki dag dco dpa dme dso drs dwa dbe dpr nt nm nb nc nd ns np tnt tnm tnb tnc tnd tns tnp pf ph pst kh kst os og oh cs mo le se (mo (nI a)) (le (nI a)) ub ab cu cd)) rfl ?_
        refine g_return dX4_compareWay_105 rfl (Nat.le_refl _) (Nat.le_refl _) ?_
        have e : (rX4_compareWay mo le pk pc lf a ub) = ((mo (nI a)), (le (nI a)), ub) := by rw [rX4_compareWay, if_pos c1, if_neg c2, if_neg c4]
        rw [e]
        exact ⟨rfl, rfl⟩
  · refine g_iload_n dX4_compareWay_27 rfl 28 rfl rfl ?_
    refine g_aload_n dX4_compareWay_28 rfl 29 rfl rfl ?_
    refine g_get (v := .int pk) dX4_compareWay_29 32 rfl lX4_99 rfl rfl ?_
    refine g_icmp_le dX4_compareWay_32 39 rfl 35 rfl (fun c5 => ?_) (fun c5 => ?_)
    · refine g_iconst 0 dX4_compareWay_39 40 rfl (by decide) ?_
      refine g_goto dX4_compareWay_40 82 rfl ?_
      refine g_istore5 dX4_compareWay_82 84 rfl (by decide) rfl ?_
      refine g_iload dX4_compareWay_84 86 rfl rfl ?_
      refine g_if_eq dX4_compareWay_86 105 rfl 89 rfl (fun _ => ?_) (fun c => absurd (by decide) c)
      refine g_return dX4_compareWay_105 rfl (Nat.le_refl _) (Nat.le_refl _) ?_
      have e : (rX4_compareWay mo le pk pc lf a ub) = (pk, pc, lf) := by rw [rX4_compareWay, if_neg c1, if_pos c5]
      rw [e]
      exact ⟨rfl, rfl⟩
    · refine g_iconst 1 dX4_compareWay_35 36 rfl (by decide) ?_
      refine g_goto dX4_compareWay_36 82 rfl ?_
      refine g_istore5 dX4_compareWay_82 84 rfl (by decide) rfl ?_
      refine g_iload dX4_compareWay_84 86 rfl rfl ?_
      refine g_if_eq dX4_compareWay_86 105 rfl 89 rfl (fun c => absurd c (by decide)) (fun _ => ?_)
      refine g_aload_n dX4_compareWay_89 rfl 90 rfl rfl ?_
      refine g_iload_n dX4_compareWay_90 rfl 91 rfl rfl ?_
      refine g_put dX4_compareWay_91 94 rfl lX4_99 wrX4 rfl rfl rfl rfl rfl (Nat.le_of_ble_eq_true rfl) (h' := (hC tl tn rn rp ki ag co pa me so rs wa be pr dki dag dco dpa dme dso drs dwa dbe dpr nt nm nb nc nd ns np tnt tnm tnb tnc tnd tns tnp pf ph pst kh kst os og oh cs mo le se (mo (nI a)) pc lf ab cu cd)) rfl ?_
      refine g_aload_n dX4_compareWay_94 rfl 95 rfl rfl ?_
      refine g_iload dX4_compareWay_95 97 rfl rfl ?_
      refine g_put dX4_compareWay_97 100 rfl lX4_102 wrX4 rfl rfl rfl rfl rfl (Nat.le_of_ble_eq_true rfl) (h' := (hC tl tn rn rp ki ag co pa me so rs wa be pr dki dag dco dpa dme dso drs dwa dbe dpr nt nm nb nc nd ns np tnt tnm tnb tnc tnd tns tnp pf ph pst kh kst os og oh cs mo le se (mo (nI a)) (le (nI a)) lf ab cu cd)) rfl ?_
      refine g_aload_n dX4_compareWay_100 rfl 101 rfl rfl ?_
      refine g_iload_n dX4_compareWay_101 rfl 102 rfl rfl ?_
      refine g_put dX4_compareWay_102 105 rfl lX4_105 wrX4 rfl rfl rfl rfl rfl (Nat.le_of_ble_eq_true rfl) (h' := (hC tl tn rn rp ki ag co pa me so rs wa be pr dki dag dco dpa dme dso drs dwa dbe dpr nt nm nb nc nd ns np tnt tnm tnb tnc tnd tns tnp pf ph pst kh kst os og oh cs mo le se (mo (nI a)) (le (nI a)) ub ab cu cd)) rfl ?_
      refine g_return dX4_compareWay_105 rfl (Nat.le_refl _) (Nat.le_refl _) ?_
      have e : (rX4_compareWay mo le pk pc lf a ub) = ((mo (nI a)), (le (nI a)), ub) := by rw [rX4_compareWay, if_neg c1, if_neg c5]
      rw [e]
      exact ⟨rfl, rfl⟩
def fX4_unlikeTotals_20 (ki : Int32 → Int32) (ag : Int32 → Int32) (nt : Int32 → Int32) (v : Nat) (sz : Nat) (sd : Nat) : Nat → (Int32 × (Int32 → Int32)) → (Int32 × (Int32 → Int32))
  | i, (u0, se) => (if (rX9_within (nI i) (nI v)) = true then ((u0 + (1 - (rAt 892 se (rX6_totalOf_29 ki ag nt i sz sd)))), (rPut 892 se (rX6_totalOf_29 ki ag nt i sz sd) 1)) else (u0, se))
set_option maxRecDepth 100000 in
set_option maxHeartbeats 4000000 in
theorem LX4_unlikeTotals_20 {w : gW} {al : Bool} {tl rn ki ag co pa me dki dag dco dpa dme nt tnt os og cs mo le ab : Int32 → Int32} {tn rp wa be pr dso drs dwa dbe dpr nm ns np tnm tnb tnc tnd tns tnp ph kh oh pk pc lf cu cd : Int32} {pf : Nat → Option Nat} {pst kst : Nat → gS} {n : Nat} {P : gP} {sz bo cr de sd : Nat} {v : Nat} (hs : sz ≤ 9) (hsd : sd < 512)  : ∀ (d i : Nat) (u0 : Int32) (se : Int32 → Int32), i + d = 512 → G w gT0 al n mX4_unlikeTotals 0 0 P 0 0 (hC tl tn rn rp ki ag co pa me (nI sd) (nI sz) wa be pr dki dag dco dpa dme dso drs dwa dbe dpr nt nm (nI bo) (nI cr) (nI de) ns np tnt tnm tnb tnc tnd tns tnp pf ph pst kh kst os og oh cs mo le ((gLp (fX4_unlikeTotals_20 ki ag nt v sz sd) d i (u0, se)).2) pk pc lf ab cu cd) 75 [.ref 74, .int (nI v), .int ((gLp (fX4_unlikeTotals_20 ki ag nt v sz sd) d i (u0, se)).1), .int (nI 512), gF] [] → G w gT0 al n mX4_unlikeTotals 0 0 P 0 0 (hC tl tn rn rp ki ag co pa me (nI sd) (nI sz) wa be pr dki dag dco dpa dme dso drs dwa dbe dpr nt nm (nI bo) (nI cr) (nI de) ns np tnt tnm tnb tnc tnd tns tnp pf ph pst kh kst os og oh cs mo le se pk pc lf ab cu cd) 20 [.ref 74, .int (nI v), .int u0, .int (nI i), gF] [] := by
  intro d
  induction d with
  | zero =>
    intro i u0 se hi k
    have hN : i = 512 := by omega
    rw [hN]
    rw [hN] at k
    refine g_iload_n dX4_unlikeTotals_20 rfl 21 rfl rfl ?_
    refine g_sipush 512 dX4_unlikeTotals_21 24 rfl (by decide) ?_
    refine g_icmp_ge dX4_unlikeTotals_24 75 rfl 27 rfl (fun _ => ?_) (fun c => absurd (nI_le (a := 512) (b := 512) (by omega) (by omega)) c)
    exact k
  | succ d ih =>
    intro i u0 se hi k
    refine g_iload_n dX4_unlikeTotals_20 rfl 21 rfl rfl ?_
    refine g_sipush 512 dX4_unlikeTotals_21 24 rfl (by decide) ?_
    refine g_icmp_ge dX4_unlikeTotals_24 75 rfl 27 rfl (fun c => absurd c (nI_ge (a := i) (b := 512) (by omega) (by omega))) (fun _ => ?_)
    refine g_iload_n dX4_unlikeTotals_27 rfl 28 rfl rfl ?_
    refine g_iload_n dX4_unlikeTotals_28 rfl 29 rfl rfl ?_
    refine g_cSNv (as := [.int (nI i), .int (nI v)]) (st := []) dX4_unlikeTotals_29 32 rfl kX4_37 ⟨Nat.le_of_ble_eq_true rfl, Nat.le_of_ble_eq_true rfl⟩ (MX9_within (nI i) (nI v)) rfl (Nat.le_of_ble_eq_true rfl) (Nat.le_refl _) (Nat.le_refl _) ?_
    refine g_if_eq dX4_unlikeTotals_32 69 rfl 35 rfl (fun c1 => ?_) (fun c1 => ?_)
    · replace c1 := gB_f c1
      refine g_iinc3 dX4_unlikeTotals_69 72 rfl 1 (by decide) (nI (i + 1)) (nI_add _ 1) (by decide) rfl ?_
      refine g_goto dX4_unlikeTotals_72 20 rfl ?_
      have e : (fX4_unlikeTotals_20 ki ag nt v sz sd) i (u0, se) = (u0, se) := by rw [fX4_unlikeTotals_20, if_neg c1]
      refine ih (i + 1) u0 se (by omega) ?_
      rw [← e]
      exact k
    · replace c1 := gB_t c1
      refine g_aload_n dX4_unlikeTotals_35 rfl 36 rfl rfl ?_
      refine g_get (v := .ref 29) dX4_unlikeTotals_36 39 rfl lX4_33 rfl rfl ?_
      refine g_iload_n dX4_unlikeTotals_39 rfl 40 rfl rfl ?_
      refine g_cVv (as := [.int (nI i)]) (st := []) dX4_unlikeTotals_40 43 rfl kX4_117 ⟨Nat.le_of_ble_eq_true rfl, Nat.le_of_ble_eq_true rfl⟩ (MX6_totalOf_29 (sz := sz) (bo := bo) (cr := cr) (de := de) (sd := sd) i (by omega) (by omega) (by omega)) rfl rfl rfl rfl (Nat.le_of_ble_eq_true rfl) (Nat.le_refl _) (Nat.le_refl _) ?_
      refine g_istore4 dX4_unlikeTotals_43 45 rfl (by decide) rfl ?_
      refine g_iload_n dX4_unlikeTotals_45 rfl 46 rfl rfl ?_
      refine g_iconst 1 dX4_unlikeTotals_46 47 rfl (by decide) ?_
      refine g_aload_n dX4_unlikeTotals_47 rfl 48 rfl rfl ?_
      refine g_get (v := .ref 81) dX4_unlikeTotals_48 51 rfl lX4_26 rfl rfl ?_
      refine g_iload dX4_unlikeTotals_51 53 rfl rfl ?_
      refine g_cVv (as := [.int (rX6_totalOf_29 ki ag nt i sz sd)]) (st := [.int 1, .int u0]) dX4_unlikeTotals_53 56 rfl kX4_58 ⟨Nat.le_of_ble_eq_true rfl, Nat.le_of_ble_eq_true rfl⟩ (MX3_at (k := 81) (j := 82) (N := 892) (f := se) rfl rfl (by decide) (rX6_totalOf_29 ki ag nt i sz sd)) rfl rfl rfl rfl (Nat.le_of_ble_eq_true rfl) (Nat.le_refl _) (Nat.le_refl _) ?_
      refine g_isub dX4_unlikeTotals_56 57 rfl ?_
      refine g_iadd dX4_unlikeTotals_57 58 rfl ?_
      refine g_istore2 dX4_unlikeTotals_58 59 rfl (by decide) rfl ?_
      refine g_aload_n dX4_unlikeTotals_59 rfl 60 rfl rfl ?_
      refine g_get (v := .ref 81) dX4_unlikeTotals_60 63 rfl lX4_26 rfl rfl ?_
      refine g_iload dX4_unlikeTotals_63 65 rfl rfl ?_
      refine g_iconst 1 dX4_unlikeTotals_65 66 rfl (by decide) ?_
      refine g_cV0 (as := [.int (rX6_totalOf_29 ki ag nt i sz sd), .int 1]) (st := []) dX4_unlikeTotals_66 69 rfl kX4_47 ⟨Nat.le_of_ble_eq_true rfl, Nat.le_of_ble_eq_true rfl⟩ (MX3_put (k := 81) (j := 82) (N := 892) (f := se) rfl rfl (by decide) (rX6_totalOf_29 ki ag nt i sz sd) 1 (h' := (hC tl tn rn rp ki ag co pa me (nI sd) (nI sz) wa be pr dki dag dco dpa dme dso drs dwa dbe dpr nt nm (nI bo) (nI cr) (nI de) ns np tnt tnm tnb tnc tnd tns tnp pf ph pst kh kst os og oh cs mo le (rPut 892 se (rX6_totalOf_29 ki ag nt i sz sd) 1) pk pc lf ab cu cd)) rfl) rfl rfl rfl rfl (Nat.le_of_ble_eq_true rfl) (Nat.le_refl _) (Nat.le_refl _) ?_
      refine g_iinc3 dX4_unlikeTotals_69 72 rfl 1 (by decide) (nI (i + 1)) (nI_add _ 1) (by decide) rfl ?_
      refine g_goto dX4_unlikeTotals_72 20 rfl ?_
      refine g_fgt (L' := [.ref 74, .int (nI v), .int (u0 + (1 - (rAt 892 se (rX6_totalOf_29 ki ag nt i sz sd)))), .int (nI (i + 1)), gF]) ⟨Or.inl rfl, Or.inl rfl, Or.inl rfl, Or.inl rfl, Or.inr rfl, trivial⟩ ?_
      have e : (fX4_unlikeTotals_20 ki ag nt v sz sd) i (u0, se) = ((u0 + (1 - (rAt 892 se (rX6_totalOf_29 ki ag nt i sz sd)))), (rPut 892 se (rX6_totalOf_29 ki ag nt i sz sd) 1)) := by rw [fX4_unlikeTotals_20, if_pos c1]
      refine ih (i + 1) (u0 + (1 - (rAt 892 se (rX6_totalOf_29 ki ag nt i sz sd)))) (rPut 892 se (rX6_totalOf_29 ki ag nt i sz sd) 1) (by omega) ?_
      rw [← e]
      exact k
def rX4_unlikeTotals (ki : Int32 → Int32) (ag : Int32 → Int32) (co : Int32 → Int32) (nt : Int32 → Int32) (nm : Int32) (se : Int32 → Int32) (sz : Nat) (cr : Nat) (de : Nat) (sd : Nat) : Int32 × (Int32 → Int32) := (((gLp (fX4_unlikeTotals_20 ki ag nt (presN co nm sz cr de) sz sd) (512 - 1) 1 (0, (rFill 0 892 0 se))).1), ((gLp (fX4_unlikeTotals_20 ki ag nt (presN co nm sz cr de) sz sd) (512 - 1) 1 (0, (rFill 0 892 0 se))).2))
set_option maxRecDepth 100000 in
set_option maxHeartbeats 4000000 in
theorem MX4_unlikeTotals {w : gW} {al : Bool} {tl rn ki ag co pa me dki dag dco dpa dme nt tnt os og cs mo le se ab : Int32 → Int32} {tn rp wa be pr dso drs dwa dbe dpr nm ns np tnm tnb tnc tnd tns tnp ph kh oh pk pc lf cu cd : Int32} {pf : Nat → Option Nat} {pst kst : Nat → gS} {sz bo cr de sd : Nat} (hs : sz ≤ 9) (hsd : sd < 512)  : M w gT0 al mX4_unlikeTotals 0 0 (hC tl tn rn rp ki ag co pa me (nI sd) (nI sz) wa be pr dki dag dco dpa dme dso drs dwa dbe dpr nt nm (nI bo) (nI cr) (nI de) ns np tnt tnm tnb tnc tnd tns tnp pf ph pst kh kst os og oh cs mo le se pk pc lf ab cu cd) [.ref 74] (gEq (hC tl tn rn rp ki ag co pa me (nI sd) (nI sz) wa be pr dki dag dco dpa dme dso drs dwa dbe dpr nt nm (nI bo) (nI cr) (nI de) ns np tnt tnm tnb tnc tnd tns tnp pf ph pst kh kst os og oh cs mo le ((rX4_unlikeTotals ki ag co nt nm se sz cr de sd).2) pk pc lf ab cu cd) (some (.int ((rX4_unlikeTotals ki ag co nt nm se sz cr de sd).1)))) := by
  refine M.of (L0 := [.ref 74, gF, gF, gF, gF]) (by decide +kernel) (Nat.le_of_ble_eq_true rfl) rfl ?_
  refine g_aload_n dX4_unlikeTotals_0 rfl 1 rfl rfl ?_
  refine g_get (v := .ref 29) dX4_unlikeTotals_1 4 rfl lX4_33 rfl rfl ?_
  refine g_cVv (as := []) (st := []) dX4_unlikeTotals_4 7 rfl kX4_51 ⟨Nat.le_of_ble_eq_true rfl, Nat.le_of_ble_eq_true rfl⟩ (MX6_present_29' (sz := sz) (bo := bo) (cr := cr) (de := de) (sd := sd) (by omega)) rfl rfl rfl rfl (Nat.le_of_ble_eq_true rfl) (Nat.le_refl _) (Nat.le_refl _) ?_
  refine g_istore1 dX4_unlikeTotals_7 8 rfl (by decide) rfl ?_
  refine g_iconst 0 dX4_unlikeTotals_8 9 rfl (by decide) ?_
  refine g_istore2 dX4_unlikeTotals_9 10 rfl (by decide) rfl ?_
  refine g_aload_n dX4_unlikeTotals_10 rfl 11 rfl rfl ?_
  refine g_get (v := .ref 81) dX4_unlikeTotals_11 14 rfl lX4_26 rfl rfl ?_
  refine g_iconst 0 dX4_unlikeTotals_14 15 rfl (by decide) ?_
  refine g_cV0 (as := [.int 0]) (st := []) dX4_unlikeTotals_15 18 rfl kX4_114 ⟨Nat.le_of_ble_eq_true rfl, Nat.le_of_ble_eq_true rfl⟩ (MX3_fill (k := 81) (j := 82) (N := 892) (f := se) rfl rfl (by decide) (by decide) 0 (h' := (hC tl tn rn rp ki ag co pa me (nI sd) (nI sz) wa be pr dki dag dco dpa dme dso drs dwa dbe dpr nt nm (nI bo) (nI cr) (nI de) ns np tnt tnm tnb tnc tnd tns tnp pf ph pst kh kst os og oh cs mo le (rFill 0 892 0 se) pk pc lf ab cu cd)) rfl) rfl rfl rfl rfl (Nat.le_of_ble_eq_true rfl) (Nat.le_refl _) (Nat.le_refl _) ?_
  refine g_iconst 1 dX4_unlikeTotals_18 19 rfl (by decide) ?_
  refine g_istore3 dX4_unlikeTotals_19 20 rfl (by decide) rfl ?_
  refine LX4_unlikeTotals_20 (v := (presN co nm sz cr de)) (by omega) (by omega) (512 - 1) 1 0 (rFill 0 892 0 se) (by omega) ?_
  refine g_iload_n dX4_unlikeTotals_75 rfl 76 rfl rfl ?_
  refine g_ireturn dX4_unlikeTotals_76 rfl rfl (Nat.le_refl _) (Nat.le_refl _) ?_
  have e : (rX4_unlikeTotals ki ag co nt nm se sz cr de sd) = (((gLp (fX4_unlikeTotals_20 ki ag nt (presN co nm sz cr de) sz sd) (512 - 1) 1 (0, (rFill 0 892 0 se))).1), ((gLp (fX4_unlikeTotals_20 ki ag nt (presN co nm sz cr de) sz sd) (512 - 1) 1 (0, (rFill 0 892 0 se))).2)) := by rw [rX4_unlikeTotals]
  rw [e]
  try dsimp only
  exact ⟨rfl, rfl⟩
def fX4_nearestTotal_13 (ki : Int32 → Int32) (ag : Int32 → Int32) (wa : Int32) (nt : Int32 → Int32) (v : Nat) (sz : Nat) (sd : Nat) : Nat → (Int32) → (Int32)
  | i, u0 => (if (rX9_within (nI i) (nI v)) = true then (if u0 = (-4) then (rX6_totalOf_29 ki ag nt i sz sd) else (rX4_nearer wa (rX6_totalOf_29 ki ag nt i sz sd) u0)) else u0)
set_option maxRecDepth 100000 in
set_option maxHeartbeats 4000000 in
theorem LX4_nearestTotal_13 {w : gW} {al : Bool} {tl rn ki ag co pa me dki dag dco dpa dme nt tnt os og cs mo le se ab : Int32 → Int32} {tn rp wa be pr dso drs dwa dbe dpr nm ns np tnm tnb tnc tnd tns tnp ph kh oh pk pc lf cu cd : Int32} {pf : Nat → Option Nat} {pst kst : Nat → gS} {n : Nat} {P : gP} {sz bo cr de sd : Nat} {v : Nat} (hs : sz ≤ 9) (hsd : sd < 512)  : ∀ (d i : Nat) (u0 : Int32), i + d = 512 → G w gT0 al n mX4_nearestTotal 0 0 P 0 0 (hC tl tn rn rp ki ag co pa me (nI sd) (nI sz) wa be pr dki dag dco dpa dme dso drs dwa dbe dpr nt nm (nI bo) (nI cr) (nI de) ns np tnt tnm tnb tnc tnd tns tnp pf ph pst kh kst os og oh cs mo le se pk pc lf ab cu cd) 63 [.ref 74, .int (nI v), .int (gLp (fX4_nearestTotal_13 ki ag wa nt v sz sd) d i u0), .int (nI 512), gF] [] → G w gT0 al n mX4_nearestTotal 0 0 P 0 0 (hC tl tn rn rp ki ag co pa me (nI sd) (nI sz) wa be pr dki dag dco dpa dme dso drs dwa dbe dpr nt nm (nI bo) (nI cr) (nI de) ns np tnt tnm tnb tnc tnd tns tnp pf ph pst kh kst os og oh cs mo le se pk pc lf ab cu cd) 13 [.ref 74, .int (nI v), .int u0, .int (nI i), gF] [] := by
  intro d
  induction d with
  | zero =>
    intro i u0 hi k
    have hN : i = 512 := by omega
    rw [hN]
    rw [hN] at k
    refine g_iload_n dX4_nearestTotal_13 rfl 14 rfl rfl ?_
    refine g_sipush 512 dX4_nearestTotal_14 17 rfl (by decide) ?_
    refine g_icmp_ge dX4_nearestTotal_17 63 rfl 20 rfl (fun _ => ?_) (fun c => absurd (nI_le (a := 512) (b := 512) (by omega) (by omega)) c)
    exact k
  | succ d ih =>
    intro i u0 hi k
    refine g_iload_n dX4_nearestTotal_13 rfl 14 rfl rfl ?_
    refine g_sipush 512 dX4_nearestTotal_14 17 rfl (by decide) ?_
    refine g_icmp_ge dX4_nearestTotal_17 63 rfl 20 rfl (fun c => absurd c (nI_ge (a := i) (b := 512) (by omega) (by omega))) (fun _ => ?_)
    refine g_iload_n dX4_nearestTotal_20 rfl 21 rfl rfl ?_
    refine g_iload_n dX4_nearestTotal_21 rfl 22 rfl rfl ?_
    refine g_cSNv (as := [.int (nI i), .int (nI v)]) (st := []) dX4_nearestTotal_22 25 rfl kX4_37 ⟨Nat.le_of_ble_eq_true rfl, Nat.le_of_ble_eq_true rfl⟩ (MX9_within (nI i) (nI v)) rfl (Nat.le_of_ble_eq_true rfl) (Nat.le_refl _) (Nat.le_refl _) ?_
    refine g_if_eq dX4_nearestTotal_25 57 rfl 28 rfl (fun c1 => ?_) (fun c1 => ?_)
    · replace c1 := gB_f c1
      refine g_iinc3 dX4_nearestTotal_57 60 rfl 1 (by decide) (nI (i + 1)) (nI_add _ 1) (by decide) rfl ?_
      refine g_goto dX4_nearestTotal_60 13 rfl ?_
      have e : (fX4_nearestTotal_13 ki ag wa nt v sz sd) i u0 = u0 := by rw [fX4_nearestTotal_13, if_neg c1]
      refine ih (i + 1) u0 (by omega) ?_
      rw [← e]
      exact k
    · replace c1 := gB_t c1
      refine g_aload_n dX4_nearestTotal_28 rfl 29 rfl rfl ?_
      refine g_get (v := .ref 29) dX4_nearestTotal_29 32 rfl lX4_33 rfl rfl ?_
      refine g_iload_n dX4_nearestTotal_32 rfl 33 rfl rfl ?_
      refine g_cVv (as := [.int (nI i)]) (st := []) dX4_nearestTotal_33 36 rfl kX4_117 ⟨Nat.le_of_ble_eq_true rfl, Nat.le_of_ble_eq_true rfl⟩ (MX6_totalOf_29 (sz := sz) (bo := bo) (cr := cr) (de := de) (sd := sd) i (by omega) (by omega) (by omega)) rfl rfl rfl rfl (Nat.le_of_ble_eq_true rfl) (Nat.le_refl _) (Nat.le_refl _) ?_
      refine g_istore4 dX4_nearestTotal_36 38 rfl (by decide) rfl ?_
      refine g_iload_n dX4_nearestTotal_38 rfl 39 rfl rfl ?_
      refine g_bipush (-4) dX4_nearestTotal_39 41 rfl (by decide) ?_
      refine g_icmp_ne dX4_nearestTotal_41 49 rfl 44 rfl (fun c2 => ?_) (fun c2 => ?_)
      · refine g_aload_n dX4_nearestTotal_49 rfl 50 rfl rfl ?_
        refine g_iload dX4_nearestTotal_50 52 rfl rfl ?_
        refine g_iload_n dX4_nearestTotal_52 rfl 53 rfl rfl ?_
        refine g_cVv (as := [.int (rX6_totalOf_29 ki ag nt i sz sd), .int u0]) (st := []) dX4_nearestTotal_53 56 rfl kX4_120 ⟨Nat.le_of_ble_eq_true rfl, Nat.le_of_ble_eq_true rfl⟩ (MX4_nearer (rX6_totalOf_29 ki ag nt i sz sd) u0) rfl rfl rfl rfl (Nat.le_of_ble_eq_true rfl) (Nat.le_refl _) (Nat.le_refl _) ?_
        refine g_istore2 dX4_nearestTotal_56 57 rfl (by decide) rfl ?_
        refine g_iinc3 dX4_nearestTotal_57 60 rfl 1 (by decide) (nI (i + 1)) (nI_add _ 1) (by decide) rfl ?_
        refine g_goto dX4_nearestTotal_60 13 rfl ?_
        refine g_fgt (L' := [.ref 74, .int (nI v), .int (rX4_nearer wa (rX6_totalOf_29 ki ag nt i sz sd) u0), .int (nI (i + 1)), gF]) ⟨Or.inl rfl, Or.inl rfl, Or.inl rfl, Or.inl rfl, Or.inr rfl, trivial⟩ ?_
        have e : (fX4_nearestTotal_13 ki ag wa nt v sz sd) i u0 = (rX4_nearer wa (rX6_totalOf_29 ki ag nt i sz sd) u0) := by rw [fX4_nearestTotal_13, if_pos c1, if_neg c2]
        refine ih (i + 1) (rX4_nearer wa (rX6_totalOf_29 ki ag nt i sz sd) u0) (by omega) ?_
        rw [← e]
        exact k
      · refine g_iload dX4_nearestTotal_44 46 rfl rfl ?_
        refine g_goto dX4_nearestTotal_46 56 rfl ?_
        refine g_istore2 dX4_nearestTotal_56 57 rfl (by decide) rfl ?_
        refine g_iinc3 dX4_nearestTotal_57 60 rfl 1 (by decide) (nI (i + 1)) (nI_add _ 1) (by decide) rfl ?_
        refine g_goto dX4_nearestTotal_60 13 rfl ?_
        refine g_fgt (L' := [.ref 74, .int (nI v), .int (rX6_totalOf_29 ki ag nt i sz sd), .int (nI (i + 1)), gF]) ⟨Or.inl rfl, Or.inl rfl, Or.inl rfl, Or.inl rfl, Or.inr rfl, trivial⟩ ?_
        have e : (fX4_nearestTotal_13 ki ag wa nt v sz sd) i u0 = (rX6_totalOf_29 ki ag nt i sz sd) := by rw [fX4_nearestTotal_13, if_pos c1, if_pos c2]
        refine ih (i + 1) (rX6_totalOf_29 ki ag nt i sz sd) (by omega) ?_
        rw [← e]
        exact k
def rX4_nearestTotal (ki : Int32 → Int32) (ag : Int32 → Int32) (co : Int32 → Int32) (wa : Int32) (nt : Int32 → Int32) (nm : Int32) (sz : Nat) (cr : Nat) (de : Nat) (sd : Nat) : Int32 := (gLp (fX4_nearestTotal_13 ki ag wa nt (presN co nm sz cr de) sz sd) (512 - 1) 1 (-4))
set_option maxRecDepth 100000 in
set_option maxHeartbeats 4000000 in
theorem MX4_nearestTotal {w : gW} {al : Bool} {tl rn ki ag co pa me dki dag dco dpa dme nt tnt os og cs mo le se ab : Int32 → Int32} {tn rp wa be pr dso drs dwa dbe dpr nm ns np tnm tnb tnc tnd tns tnp ph kh oh pk pc lf cu cd : Int32} {pf : Nat → Option Nat} {pst kst : Nat → gS} {sz bo cr de sd : Nat} (hs : sz ≤ 9) (hsd : sd < 512)  : M w gT0 al mX4_nearestTotal 0 0 (hC tl tn rn rp ki ag co pa me (nI sd) (nI sz) wa be pr dki dag dco dpa dme dso drs dwa dbe dpr nt nm (nI bo) (nI cr) (nI de) ns np tnt tnm tnb tnc tnd tns tnp pf ph pst kh kst os og oh cs mo le se pk pc lf ab cu cd) [.ref 74] (gEq (hC tl tn rn rp ki ag co pa me (nI sd) (nI sz) wa be pr dki dag dco dpa dme dso drs dwa dbe dpr nt nm (nI bo) (nI cr) (nI de) ns np tnt tnm tnb tnc tnd tns tnp pf ph pst kh kst os og oh cs mo le se pk pc lf ab cu cd) (some (.int (rX4_nearestTotal ki ag co wa nt nm sz cr de sd)))) := by
  refine M.of (L0 := [.ref 74, gF, gF, gF, gF]) (by decide +kernel) (Nat.le_of_ble_eq_true rfl) rfl ?_
  refine g_aload_n dX4_nearestTotal_0 rfl 1 rfl rfl ?_
  refine g_get (v := .ref 29) dX4_nearestTotal_1 4 rfl lX4_33 rfl rfl ?_
  refine g_cVv (as := []) (st := []) dX4_nearestTotal_4 7 rfl kX4_51 ⟨Nat.le_of_ble_eq_true rfl, Nat.le_of_ble_eq_true rfl⟩ (MX6_present_29' (sz := sz) (bo := bo) (cr := cr) (de := de) (sd := sd) (by omega)) rfl rfl rfl rfl (Nat.le_of_ble_eq_true rfl) (Nat.le_refl _) (Nat.le_refl _) ?_
  refine g_istore1 dX4_nearestTotal_7 8 rfl (by decide) rfl ?_
  refine g_bipush (-4) dX4_nearestTotal_8 10 rfl (by decide) ?_
  refine g_istore2 dX4_nearestTotal_10 11 rfl (by decide) rfl ?_
  refine g_iconst 1 dX4_nearestTotal_11 12 rfl (by decide) ?_
  refine g_istore3 dX4_nearestTotal_12 13 rfl (by decide) rfl ?_
  refine LX4_nearestTotal_13 (v := (presN co nm sz cr de)) (by omega) (by omega) (512 - 1) 1 (-4) (by omega) ?_
  refine g_iload_n dX4_nearestTotal_63 rfl 64 rfl rfl ?_
  refine g_ireturn dX4_nearestTotal_64 rfl rfl (Nat.le_refl _) (Nat.le_refl _) ?_
  have e : (rX4_nearestTotal ki ag co wa nt nm sz cr de sd) = (gLp (fX4_nearestTotal_13 ki ag wa nt (presN co nm sz cr de) sz sd) (512 - 1) 1 (-4)) := by rw [rX4_nearestTotal]
  rw [e]
  try dsimp only
  exact ⟨rfl, rfl⟩
def fX4_packExactly_29 (cs : Int32 → Int32) (a : Nat) (lo : Int32) : Nat → (Nat × (Int32 → Int32) × (Int32 → Int32)) → Bool × (Nat × (Int32 → Int32) × (Int32 → Int32))
  | _, (u0, mo, le) => (if (nI u0) ≤ 0 then (true, (u0, mo, le)) else (if ((nI u0) &&& lo) = 0 then (false, (((u0 - 1) &&& a), mo, le)) else (if (cs (nI u0)) = (-4) then (false, (((u0 - 1) &&& a), mo, le)) else (if (mo (nI (andN a u0))) = (-4) then (false, (((u0 - 1) &&& a), mo, le)) else (if (mo (nI a)) < ((mo (nI (andN a u0))) + 1) then (false, (((u0 - 1) &&& a), (gup mo (nI a) ((mo (nI (andN a u0))) + 1)), (gup le (nI a) ((le (nI (andN a u0))) + (cs (nI u0)))))) else (if ((mo (nI (andN a u0))) + 1) = (mo (nI a)) then (if (le (nI a)) ≤ ((le (nI (andN a u0))) + (cs (nI u0))) then (false, (((u0 - 1) &&& a), mo, le)) else (false, (((u0 - 1) &&& a), (gup mo (nI a) ((mo (nI (andN a u0))) + 1)), (gup le (nI a) ((le (nI (andN a u0))) + (cs (nI u0))))))) else (false, (((u0 - 1) &&& a), mo, le))))))))
set_option maxRecDepth 100000 in
set_option maxHeartbeats 4000000 in
theorem LX4_packExactly_29 {w : gW} {al : Bool} {tl rn ki ag co pa me dki dag dco dpa dme nt tnt os og cs se ab : Int32 → Int32} {tn rp so rs wa be pr dso drs dwa dbe dpr nm nb nc nd ns np tnm tnb tnc tnd tns tnp ph kh oh pk pc lf cu cd : Int32} {pf : Nat → Option Nat} {pst kst : Nat → gS} {n : Nat} {P : gP}  {a : Nat} {lo : Int32} (ha : a < 512)  : ∀ (d i : Nat) (u0 : Nat) (mo : Int32 → Int32) (le : Int32 → Int32), i + d = 512 → u0 < 512 → G w gT0 al n mX4_packExactly 0 0 P 0 0 (hC tl tn rn rp ki ag co pa me so rs wa be pr dki dag dco dpa dme dso drs dwa dbe dpr nt nm nb nc nd ns np tnt tnm tnb tnc tnd tns tnp pf ph pst kh kst os og oh cs ((gWh (fX4_packExactly_29 cs a lo) d i (u0, mo, le)).2.1) ((gWh (fX4_packExactly_29 cs a lo) d i (u0, mo, le)).2.2) se pk pc lf ab cu cd) 185 [.ref 74, .int (nI a), .int lo, .int (nI ((gWh (fX4_packExactly_29 cs a lo) d i (u0, mo, le)).1)), gF, gF, gF, gF] [] → G w gT0 al n mX4_packExactly 0 0 P 0 0 (hC tl tn rn rp ki ag co pa me so rs wa be pr dki dag dco dpa dme dso drs dwa dbe dpr nt nm nb nc nd ns np tnt tnm tnb tnc tnd tns tnp pf ph pst kh kst os og oh cs mo le se pk pc lf ab cu cd) 29 [.ref 74, .int (nI a), .int lo, .int (nI u0), .int (nI i), gF, gF, gF] [] := by
  intro d
  induction d with
  | zero =>
    intro i u0 mo le hi hinv k
    have hN : i = 512 := by omega
    rw [hN]
    rw [hN] at k
    refine g_iload dX4_packExactly_29 31 rfl rfl ?_
    refine g_sipush 512 dX4_packExactly_31 34 rfl (by decide) ?_
    refine g_icmp_ge dX4_packExactly_34 185 rfl 37 rfl (fun _ => ?_) (fun c => absurd (nI_le (a := 512) (b := 512) (by omega) (by omega)) c)
    refine g_fgt (L' := [.ref 74, .int (nI a), .int lo, .int (nI u0), gF, gF, gF, gF]) ⟨Or.inl rfl, Or.inl rfl, Or.inl rfl, Or.inl rfl, Or.inr rfl, Or.inl rfl, Or.inl rfl, Or.inl rfl, trivial⟩ ?_
    exact k
  | succ d ih =>
    intro i u0 mo le hi hinv k
    refine g_iload dX4_packExactly_29 31 rfl rfl ?_
    refine g_sipush 512 dX4_packExactly_31 34 rfl (by decide) ?_
    refine g_icmp_ge dX4_packExactly_34 185 rfl 37 rfl (fun c => absurd c (nI_ge (a := i) (b := 512) (by omega) (by omega))) (fun _ => ?_)
    refine g_iload_n dX4_packExactly_37 rfl 38 rfl rfl ?_
    refine g_if_le dX4_packExactly_38 185 rfl 41 rfl (fun c1 => ?_) (fun c1 => ?_)
    · refine g_fgt (L' := [.ref 74, .int (nI a), .int lo, .int (nI u0), gF, gF, gF, gF]) ⟨Or.inl rfl, Or.inl rfl, Or.inl rfl, Or.inl rfl, Or.inr rfl, Or.inl rfl, Or.inl rfl, Or.inl rfl, trivial⟩ ?_
      have e : (fX4_packExactly_29 cs a lo) i (u0, mo, le) = (true, (u0, mo, le)) := by rw [fX4_packExactly_29, if_pos c1]
      rw [gWh_t e] at k
      exact k
    · refine g_iload_n dX4_packExactly_41 rfl 42 rfl rfl ?_
      refine g_iload_n dX4_packExactly_42 rfl 43 rfl rfl ?_
      refine g_iconst (-1) dX4_packExactly_43 44 rfl (by decide) ?_
      refine g_ixor dX4_packExactly_44 45 rfl ?_
      refine g_iand' dX4_packExactly_45 46 rfl (nI (andN a u0)) (z_andN _ _) ?_
      refine g_istore5 dX4_packExactly_46 48 rfl (by decide) rfl ?_
      refine g_iload_n dX4_packExactly_48 rfl 49 rfl rfl ?_
      refine g_iload_n dX4_packExactly_49 rfl 50 rfl rfl ?_
      refine g_iand dX4_packExactly_50 51 rfl ?_
      refine g_if_eq dX4_packExactly_51 173 rfl 54 rfl (fun c2 => ?_) (fun c2 => ?_)
      · refine g_iload_n dX4_packExactly_173 rfl 174 rfl rfl ?_
        refine g_iconst 1 dX4_packExactly_174 175 rfl (by decide) ?_
        refine g_isub' dX4_packExactly_175 176 rfl (nI (u0 - 1)) (pk_sub (b := 1) (Nat.pos_of_ne_zero (fun z => c1 (by rw [z]; decide)))) ?_
        refine g_iload_n dX4_packExactly_176 rfl 177 rfl rfl ?_
        refine g_iand' dX4_packExactly_177 178 rfl (nI ((u0 - 1) &&& a)) (z_and _ _) ?_
        refine g_istore3 dX4_packExactly_178 179 rfl (by decide) rfl ?_
        refine g_iinc4 dX4_packExactly_179 182 rfl 1 (by decide) (nI (i + 1)) (nI_add _ 1) (by decide) rfl ?_
        refine g_goto dX4_packExactly_182 29 rfl ?_
        refine g_fgt (L' := [.ref 74, .int (nI a), .int lo, .int (nI ((u0 - 1) &&& a)), .int (nI (i + 1)), gF, gF, gF]) ⟨Or.inl rfl, Or.inl rfl, Or.inl rfl, Or.inl rfl, Or.inl rfl, Or.inr rfl, Or.inl rfl, Or.inl rfl, trivial⟩ ?_
        have e : (fX4_packExactly_29 cs a lo) i (u0, mo, le) = (false, (((u0 - 1) &&& a), mo, le)) := by rw [fX4_packExactly_29, if_neg c1, if_pos c2]
        rw [gWh_f e] at k
        refine ih (i + 1) ((u0 - 1) &&& a) mo le (by omega) (and_lt (by omega)) ?_
        exact k
      · refine g_aload_n dX4_packExactly_54 rfl 55 rfl rfl ?_
        refine g_get (v := .ref 75) dX4_packExactly_55 58 rfl lX4_14 rfl rfl ?_
        refine g_iload_n dX4_packExactly_58 rfl 59 rfl rfl ?_
        refine g_cVv (as := [.int (nI u0)]) (st := []) dX4_packExactly_59 62 rfl kX4_58 ⟨Nat.le_of_ble_eq_true rfl, Nat.le_of_ble_eq_true rfl⟩ (MX3_atN (k := 75) (j := 76) (N := 512) (f := cs) rfl rfl (by decide) u0 (by omega)) rfl rfl rfl rfl (Nat.le_of_ble_eq_true rfl) (Nat.le_refl _) (Nat.le_refl _) ?_
        refine g_bipush (-4) dX4_packExactly_62 64 rfl (by decide) ?_
        refine g_icmp_eq dX4_packExactly_64 173 rfl 67 rfl (fun c3 => ?_) (fun c3 => ?_)
        · refine g_iload_n dX4_packExactly_173 rfl 174 rfl rfl ?_
          refine g_iconst 1 dX4_packExactly_174 175 rfl (by decide) ?_
          refine g_isub' dX4_packExactly_175 176 rfl (nI (u0 - 1)) (pk_sub (b := 1) (Nat.pos_of_ne_zero (fun z => c1 (by rw [z]; decide)))) ?_
          refine g_iload_n dX4_packExactly_176 rfl 177 rfl rfl ?_
          refine g_iand' dX4_packExactly_177 178 rfl (nI ((u0 - 1) &&& a)) (z_and _ _) ?_
          refine g_istore3 dX4_packExactly_178 179 rfl (by decide) rfl ?_
          refine g_iinc4 dX4_packExactly_179 182 rfl 1 (by decide) (nI (i + 1)) (nI_add _ 1) (by decide) rfl ?_
          refine g_goto dX4_packExactly_182 29 rfl ?_
          refine g_fgt (L' := [.ref 74, .int (nI a), .int lo, .int (nI ((u0 - 1) &&& a)), .int (nI (i + 1)), gF, gF, gF]) ⟨Or.inl rfl, Or.inl rfl, Or.inl rfl, Or.inl rfl, Or.inl rfl, Or.inr rfl, Or.inl rfl, Or.inl rfl, trivial⟩ ?_
          have e : (fX4_packExactly_29 cs a lo) i (u0, mo, le) = (false, (((u0 - 1) &&& a), mo, le)) := by rw [fX4_packExactly_29, if_neg c1, if_neg c2, if_pos c3]
          rw [gWh_f e] at k
          refine ih (i + 1) ((u0 - 1) &&& a) mo le (by omega) (and_lt (by omega)) ?_
          exact k
        · refine g_aload_n dX4_packExactly_67 rfl 68 rfl rfl ?_
          refine g_get (v := .ref 77) dX4_packExactly_68 71 rfl lX4_20 rfl rfl ?_
          refine g_iload dX4_packExactly_71 73 rfl rfl ?_
          refine g_cVv (as := [.int (nI (andN a u0))]) (st := []) dX4_packExactly_73 76 rfl kX4_58 ⟨Nat.le_of_ble_eq_true rfl, Nat.le_of_ble_eq_true rfl⟩ (MX3_atN (k := 77) (j := 78) (N := 512) (f := mo) rfl rfl (by decide) (andN a u0) (Nat.lt_of_le_of_lt andN_le (by omega))) rfl rfl rfl rfl (Nat.le_of_ble_eq_true rfl) (Nat.le_refl _) (Nat.le_refl _) ?_
          refine g_bipush (-4) dX4_packExactly_76 78 rfl (by decide) ?_
          refine g_icmp_eq dX4_packExactly_78 173 rfl 81 rfl (fun c4 => ?_) (fun c4 => ?_)
          · refine g_iload_n dX4_packExactly_173 rfl 174 rfl rfl ?_
            refine g_iconst 1 dX4_packExactly_174 175 rfl (by decide) ?_
            refine g_isub' dX4_packExactly_175 176 rfl (nI (u0 - 1)) (pk_sub (b := 1) (Nat.pos_of_ne_zero (fun z => c1 (by rw [z]; decide)))) ?_
            refine g_iload_n dX4_packExactly_176 rfl 177 rfl rfl ?_
            refine g_iand' dX4_packExactly_177 178 rfl (nI ((u0 - 1) &&& a)) (z_and _ _) ?_
            refine g_istore3 dX4_packExactly_178 179 rfl (by decide) rfl ?_
            refine g_iinc4 dX4_packExactly_179 182 rfl 1 (by decide) (nI (i + 1)) (nI_add _ 1) (by decide) rfl ?_
            refine g_goto dX4_packExactly_182 29 rfl ?_
            refine g_fgt (L' := [.ref 74, .int (nI a), .int lo, .int (nI ((u0 - 1) &&& a)), .int (nI (i + 1)), gF, gF, gF]) ⟨Or.inl rfl, Or.inl rfl, Or.inl rfl, Or.inl rfl, Or.inl rfl, Or.inr rfl, Or.inl rfl, Or.inl rfl, trivial⟩ ?_
            have e : (fX4_packExactly_29 cs a lo) i (u0, mo, le) = (false, (((u0 - 1) &&& a), mo, le)) := by rw [fX4_packExactly_29, if_neg c1, if_neg c2, if_neg c3, if_pos c4]
            rw [gWh_f e] at k
            refine ih (i + 1) ((u0 - 1) &&& a) mo le (by omega) (and_lt (by omega)) ?_
            exact k
          · refine g_aload_n dX4_packExactly_81 rfl 82 rfl rfl ?_
            refine g_get (v := .ref 77) dX4_packExactly_82 85 rfl lX4_20 rfl rfl ?_
            refine g_iload dX4_packExactly_85 87 rfl rfl ?_
            refine g_cVv (as := [.int (nI (andN a u0))]) (st := []) dX4_packExactly_87 90 rfl kX4_58 ⟨Nat.le_of_ble_eq_true rfl, Nat.le_of_ble_eq_true rfl⟩ (MX3_atN (k := 77) (j := 78) (N := 512) (f := mo) rfl rfl (by decide) (andN a u0) (Nat.lt_of_le_of_lt andN_le (by omega))) rfl rfl rfl rfl (Nat.le_of_ble_eq_true rfl) (Nat.le_refl _) (Nat.le_refl _) ?_
            refine g_iconst 1 dX4_packExactly_90 91 rfl (by decide) ?_
            refine g_iadd dX4_packExactly_91 92 rfl ?_
            refine g_istore6 dX4_packExactly_92 94 rfl (by decide) rfl ?_
            refine g_aload_n dX4_packExactly_94 rfl 95 rfl rfl ?_
            refine g_get (v := .ref 79) dX4_packExactly_95 98 rfl lX4_23 rfl rfl ?_
            refine g_iload dX4_packExactly_98 100 rfl rfl ?_
            refine g_cVv (as := [.int (nI (andN a u0))]) (st := []) dX4_packExactly_100 103 rfl kX4_58 ⟨Nat.le_of_ble_eq_true rfl, Nat.le_of_ble_eq_true rfl⟩ (MX3_atN (k := 79) (j := 80) (N := 512) (f := le) rfl rfl (by decide) (andN a u0) (Nat.lt_of_le_of_lt andN_le (by omega))) rfl rfl rfl rfl (Nat.le_of_ble_eq_true rfl) (Nat.le_refl _) (Nat.le_refl _) ?_
            refine g_aload_n dX4_packExactly_103 rfl 104 rfl rfl ?_
            refine g_get (v := .ref 75) dX4_packExactly_104 107 rfl lX4_14 rfl rfl ?_
            refine g_iload_n dX4_packExactly_107 rfl 108 rfl rfl ?_
            refine g_cVv (as := [.int (nI u0)]) (st := [.int (le (nI (andN a u0)))]) dX4_packExactly_108 111 rfl kX4_58 ⟨Nat.le_of_ble_eq_true rfl, Nat.le_of_ble_eq_true rfl⟩ (MX3_atN (k := 75) (j := 76) (N := 512) (f := cs) rfl rfl (by decide) u0 (by omega)) rfl rfl rfl rfl (Nat.le_of_ble_eq_true rfl) (Nat.le_refl _) (Nat.le_refl _) ?_
            refine g_iadd dX4_packExactly_111 112 rfl ?_
            refine g_istore7 dX4_packExactly_112 114 rfl (by decide) rfl ?_
            refine g_iload dX4_packExactly_114 116 rfl rfl ?_
            refine g_aload_n dX4_packExactly_116 rfl 117 rfl rfl ?_
            refine g_get (v := .ref 77) dX4_packExactly_117 120 rfl lX4_20 rfl rfl ?_
            refine g_iload_n dX4_packExactly_120 rfl 121 rfl rfl ?_
            refine g_cVv (as := [.int (nI a)]) (st := [.int ((mo (nI (andN a u0))) + 1)]) dX4_packExactly_121 124 rfl kX4_58 ⟨Nat.le_of_ble_eq_true rfl, Nat.le_of_ble_eq_true rfl⟩ (MX3_atN (k := 77) (j := 78) (N := 512) (f := mo) rfl rfl (by decide) a (by omega)) rfl rfl rfl rfl (Nat.le_of_ble_eq_true rfl) (Nat.le_refl _) (Nat.le_refl _) ?_
            refine g_icmp_gt dX4_packExactly_124 153 rfl 127 rfl (fun c5 => ?_) (fun c5 => ?_)
            · refine g_aload_n dX4_packExactly_153 rfl 154 rfl rfl ?_
              refine g_get (v := .ref 77) dX4_packExactly_154 157 rfl lX4_20 rfl rfl ?_
              refine g_iload_n dX4_packExactly_157 rfl 158 rfl rfl ?_
              refine g_iload dX4_packExactly_158 160 rfl rfl ?_
              refine g_cV0 (as := [.int (nI a), .int ((mo (nI (andN a u0))) + 1)]) (st := []) dX4_packExactly_160 163 rfl kX4_47 ⟨Nat.le_of_ble_eq_true rfl, Nat.le_of_ble_eq_true rfl⟩ (MX3_putN (k := 77) (j := 78) (N := 512) (f := mo) rfl rfl (by decide) a (by omega) ((mo (nI (andN a u0))) + 1) (h' := (hC tl tn rn rp ki ag co pa me so rs wa be pr dki dag dco dpa dme dso drs dwa dbe dpr nt nm nb nc nd ns np tnt tnm tnb tnc tnd tns tnp pf ph pst kh kst os og oh cs (gup mo (nI a) ((mo (nI (andN a u0))) + 1)) le se pk pc lf ab cu cd)) rfl) rfl rfl rfl rfl (Nat.le_of_ble_eq_true rfl) (Nat.le_refl _) (Nat.le_refl _) ?_
              refine g_aload_n dX4_packExactly_163 rfl 164 rfl rfl ?_
              refine g_get (v := .ref 79) dX4_packExactly_164 167 rfl lX4_23 rfl rfl ?_
              refine g_iload_n dX4_packExactly_167 rfl 168 rfl rfl ?_
              refine g_iload dX4_packExactly_168 170 rfl rfl ?_
              refine g_cV0 (as := [.int (nI a), .int ((le (nI (andN a u0))) + (cs (nI u0)))]) (st := []) dX4_packExactly_170 173 rfl kX4_47 ⟨Nat.le_of_ble_eq_true rfl, Nat.le_of_ble_eq_true rfl⟩ (MX3_putN (k := 79) (j := 80) (N := 512) (f := le) rfl rfl (by decide) a (by omega) ((le (nI (andN a u0))) + (cs (nI u0))) (h' := (hC tl tn rn rp ki ag co pa me so rs wa be pr dki dag dco dpa dme dso drs dwa dbe dpr nt nm nb nc nd ns np tnt tnm tnb tnc tnd tns tnp pf ph pst kh kst os og oh cs (gup mo (nI a) ((mo (nI (andN a u0))) + 1)) (gup le (nI a) ((le (nI (andN a u0))) + (cs (nI u0)))) se pk pc lf ab cu cd)) rfl) rfl rfl rfl rfl (Nat.le_of_ble_eq_true rfl) (Nat.le_refl _) (Nat.le_refl _) ?_
              refine g_iload_n dX4_packExactly_173 rfl 174 rfl rfl ?_
              refine g_iconst 1 dX4_packExactly_174 175 rfl (by decide) ?_
              refine g_isub' dX4_packExactly_175 176 rfl (nI (u0 - 1)) (pk_sub (b := 1) (Nat.pos_of_ne_zero (fun z => c1 (by rw [z]; decide)))) ?_
              refine g_iload_n dX4_packExactly_176 rfl 177 rfl rfl ?_
              refine g_iand' dX4_packExactly_177 178 rfl (nI ((u0 - 1) &&& a)) (z_and _ _) ?_
              refine g_istore3 dX4_packExactly_178 179 rfl (by decide) rfl ?_
              refine g_iinc4 dX4_packExactly_179 182 rfl 1 (by decide) (nI (i + 1)) (nI_add _ 1) (by decide) rfl ?_
              refine g_goto dX4_packExactly_182 29 rfl ?_
              refine g_fgt (L' := [.ref 74, .int (nI a), .int lo, .int (nI ((u0 - 1) &&& a)), .int (nI (i + 1)), gF, gF, gF]) ⟨Or.inl rfl, Or.inl rfl, Or.inl rfl, Or.inl rfl, Or.inl rfl, Or.inr rfl, Or.inr rfl, Or.inr rfl, trivial⟩ ?_
              have e : (fX4_packExactly_29 cs a lo) i (u0, mo, le) = (false, (((u0 - 1) &&& a), (gup mo (nI a) ((mo (nI (andN a u0))) + 1)), (gup le (nI a) ((le (nI (andN a u0))) + (cs (nI u0)))))) := by rw [fX4_packExactly_29, if_neg c1, if_neg c2, if_neg c3, if_neg c4, if_pos c5]
              rw [gWh_f e] at k
              refine ih (i + 1) ((u0 - 1) &&& a) (gup mo (nI a) ((mo (nI (andN a u0))) + 1)) (gup le (nI a) ((le (nI (andN a u0))) + (cs (nI u0)))) (by omega) (and_lt (by omega)) ?_
              exact k
            · refine g_iload dX4_packExactly_127 129 rfl rfl ?_
              refine g_aload_n dX4_packExactly_129 rfl 130 rfl rfl ?_
              refine g_get (v := .ref 77) dX4_packExactly_130 133 rfl lX4_20 rfl rfl ?_
              refine g_iload_n dX4_packExactly_133 rfl 134 rfl rfl ?_
              refine g_cVv (as := [.int (nI a)]) (st := [.int ((mo (nI (andN a u0))) + 1)]) dX4_packExactly_134 137 rfl kX4_58 ⟨Nat.le_of_ble_eq_true rfl, Nat.le_of_ble_eq_true rfl⟩ (MX3_atN (k := 77) (j := 78) (N := 512) (f := mo) rfl rfl (by decide) a (by omega)) rfl rfl rfl rfl (Nat.le_of_ble_eq_true rfl) (Nat.le_refl _) (Nat.le_refl _) ?_
              refine g_icmp_ne dX4_packExactly_137 173 rfl 140 rfl (fun c6 => ?_) (fun c6 => ?_)
              · refine g_iload_n dX4_packExactly_173 rfl 174 rfl rfl ?_
                refine g_iconst 1 dX4_packExactly_174 175 rfl (by decide) ?_
                refine g_isub' dX4_packExactly_175 176 rfl (nI (u0 - 1)) (pk_sub (b := 1) (Nat.pos_of_ne_zero (fun z => c1 (by rw [z]; decide)))) ?_
                refine g_iload_n dX4_packExactly_176 rfl 177 rfl rfl ?_
                refine g_iand' dX4_packExactly_177 178 rfl (nI ((u0 - 1) &&& a)) (z_and _ _) ?_
                refine g_istore3 dX4_packExactly_178 179 rfl (by decide) rfl ?_
                refine g_iinc4 dX4_packExactly_179 182 rfl 1 (by decide) (nI (i + 1)) (nI_add _ 1) (by decide) rfl ?_
                refine g_goto dX4_packExactly_182 29 rfl ?_
                refine g_fgt (L' := [.ref 74, .int (nI a), .int lo, .int (nI ((u0 - 1) &&& a)), .int (nI (i + 1)), gF, gF, gF]) ⟨Or.inl rfl, Or.inl rfl, Or.inl rfl, Or.inl rfl, Or.inl rfl, Or.inr rfl, Or.inr rfl, Or.inr rfl, trivial⟩ ?_
                have e : (fX4_packExactly_29 cs a lo) i (u0, mo, le) = (false, (((u0 - 1) &&& a), mo, le)) := by rw [fX4_packExactly_29, if_neg c1, if_neg c2, if_neg c3, if_neg c4, if_neg c5, if_neg c6]
                rw [gWh_f e] at k
                refine ih (i + 1) ((u0 - 1) &&& a) mo le (by omega) (and_lt (by omega)) ?_
                exact k
              · refine g_iload dX4_packExactly_140 142 rfl rfl ?_
                refine g_aload_n dX4_packExactly_142 rfl 143 rfl rfl ?_
                refine g_get (v := .ref 79) dX4_packExactly_143 146 rfl lX4_23 rfl rfl ?_
                refine g_iload_n dX4_packExactly_146 rfl 147 rfl rfl ?_
                refine g_cVv (as := [.int (nI a)]) (st := [.int ((le (nI (andN a u0))) + (cs (nI u0)))]) dX4_packExactly_147 150 rfl kX4_58 ⟨Nat.le_of_ble_eq_true rfl, Nat.le_of_ble_eq_true rfl⟩ (MX3_atN (k := 79) (j := 80) (N := 512) (f := le) rfl rfl (by decide) a (by omega)) rfl rfl rfl rfl (Nat.le_of_ble_eq_true rfl) (Nat.le_refl _) (Nat.le_refl _) ?_
                refine g_icmp_ge dX4_packExactly_150 173 rfl 153 rfl (fun c7 => ?_) (fun c7 => ?_)
                · refine g_iload_n dX4_packExactly_173 rfl 174 rfl rfl ?_
                  refine g_iconst 1 dX4_packExactly_174 175 rfl (by decide) ?_
                  refine g_isub' dX4_packExactly_175 176 rfl (nI (u0 - 1)) (pk_sub (b := 1) (Nat.pos_of_ne_zero (fun z => c1 (by rw [z]; decide)))) ?_
                  refine g_iload_n dX4_packExactly_176 rfl 177 rfl rfl ?_
                  refine g_iand' dX4_packExactly_177 178 rfl (nI ((u0 - 1) &&& a)) (z_and _ _) ?_
                  refine g_istore3 dX4_packExactly_178 179 rfl (by decide) rfl ?_
                  refine g_iinc4 dX4_packExactly_179 182 rfl 1 (by decide) (nI (i + 1)) (nI_add _ 1) (by decide) rfl ?_
                  refine g_goto dX4_packExactly_182 29 rfl ?_
                  refine g_fgt (L' := [.ref 74, .int (nI a), .int lo, .int (nI ((u0 - 1) &&& a)), .int (nI (i + 1)), gF, gF, gF]) ⟨Or.inl rfl, Or.inl rfl, Or.inl rfl, Or.inl rfl, Or.inl rfl, Or.inr rfl, Or.inr rfl, Or.inr rfl, trivial⟩ ?_
                  have e : (fX4_packExactly_29 cs a lo) i (u0, mo, le) = (false, (((u0 - 1) &&& a), mo, le)) := by rw [fX4_packExactly_29, if_neg c1, if_neg c2, if_neg c3, if_neg c4, if_neg c5, if_pos c6, if_pos c7]
                  rw [gWh_f e] at k
                  refine ih (i + 1) ((u0 - 1) &&& a) mo le (by omega) (and_lt (by omega)) ?_
                  exact k
                · refine g_aload_n dX4_packExactly_153 rfl 154 rfl rfl ?_
                  refine g_get (v := .ref 77) dX4_packExactly_154 157 rfl lX4_20 rfl rfl ?_
                  refine g_iload_n dX4_packExactly_157 rfl 158 rfl rfl ?_
                  refine g_iload dX4_packExactly_158 160 rfl rfl ?_
                  refine g_cV0 (as := [.int (nI a), .int ((mo (nI (andN a u0))) + 1)]) (st := []) dX4_packExactly_160 163 rfl kX4_47 ⟨Nat.le_of_ble_eq_true rfl, Nat.le_of_ble_eq_true rfl⟩ (MX3_putN (k := 77) (j := 78) (N := 512) (f := mo) rfl rfl (by decide) a (by omega) ((mo (nI (andN a u0))) + 1) (h' := (hC tl tn rn rp ki ag co pa me so rs wa be pr dki dag dco dpa dme dso drs dwa dbe dpr nt nm nb nc nd ns np tnt tnm tnb tnc tnd tns tnp pf ph pst kh kst os og oh cs (gup mo (nI a) ((mo (nI (andN a u0))) + 1)) le se pk pc lf ab cu cd)) rfl) rfl rfl rfl rfl (Nat.le_of_ble_eq_true rfl) (Nat.le_refl _) (Nat.le_refl _) ?_
                  refine g_aload_n dX4_packExactly_163 rfl 164 rfl rfl ?_
                  refine g_get (v := .ref 79) dX4_packExactly_164 167 rfl lX4_23 rfl rfl ?_
                  refine g_iload_n dX4_packExactly_167 rfl 168 rfl rfl ?_
                  refine g_iload dX4_packExactly_168 170 rfl rfl ?_
                  refine g_cV0 (as := [.int (nI a), .int ((le (nI (andN a u0))) + (cs (nI u0)))]) (st := []) dX4_packExactly_170 173 rfl kX4_47 ⟨Nat.le_of_ble_eq_true rfl, Nat.le_of_ble_eq_true rfl⟩ (MX3_putN (k := 79) (j := 80) (N := 512) (f := le) rfl rfl (by decide) a (by omega) ((le (nI (andN a u0))) + (cs (nI u0))) (h' := (hC tl tn rn rp ki ag co pa me so rs wa be pr dki dag dco dpa dme dso drs dwa dbe dpr nt nm nb nc nd ns np tnt tnm tnb tnc tnd tns tnp pf ph pst kh kst os og oh cs (gup mo (nI a) ((mo (nI (andN a u0))) + 1)) (gup le (nI a) ((le (nI (andN a u0))) + (cs (nI u0)))) se pk pc lf ab cu cd)) rfl) rfl rfl rfl rfl (Nat.le_of_ble_eq_true rfl) (Nat.le_refl _) (Nat.le_refl _) ?_
                  refine g_iload_n dX4_packExactly_173 rfl 174 rfl rfl ?_
                  refine g_iconst 1 dX4_packExactly_174 175 rfl (by decide) ?_
                  refine g_isub' dX4_packExactly_175 176 rfl (nI (u0 - 1)) (pk_sub (b := 1) (Nat.pos_of_ne_zero (fun z => c1 (by rw [z]; decide)))) ?_
                  refine g_iload_n dX4_packExactly_176 rfl 177 rfl rfl ?_
                  refine g_iand' dX4_packExactly_177 178 rfl (nI ((u0 - 1) &&& a)) (z_and _ _) ?_
                  refine g_istore3 dX4_packExactly_178 179 rfl (by decide) rfl ?_
                  refine g_iinc4 dX4_packExactly_179 182 rfl 1 (by decide) (nI (i + 1)) (nI_add _ 1) (by decide) rfl ?_
                  refine g_goto dX4_packExactly_182 29 rfl ?_
                  refine g_fgt (L' := [.ref 74, .int (nI a), .int lo, .int (nI ((u0 - 1) &&& a)), .int (nI (i + 1)), gF, gF, gF]) ⟨Or.inl rfl, Or.inl rfl, Or.inl rfl, Or.inl rfl, Or.inl rfl, Or.inr rfl, Or.inr rfl, Or.inr rfl, trivial⟩ ?_
                  have e : (fX4_packExactly_29 cs a lo) i (u0, mo, le) = (false, (((u0 - 1) &&& a), (gup mo (nI a) ((mo (nI (andN a u0))) + 1)), (gup le (nI a) ((le (nI (andN a u0))) + (cs (nI u0)))))) := by rw [fX4_packExactly_29, if_neg c1, if_neg c2, if_neg c3, if_neg c4, if_neg c5, if_pos c6, if_neg c7]
                  rw [gWh_f e] at k
                  refine ih (i + 1) ((u0 - 1) &&& a) (gup mo (nI a) ((mo (nI (andN a u0))) + 1)) (gup le (nI a) ((le (nI (andN a u0))) + (cs (nI u0)))) (by omega) (and_lt (by omega)) ?_
                  exact k
def rX4_packExactly (cs : Int32 → Int32) (mo : Int32 → Int32) (le : Int32 → Int32) (a : Nat) : (Int32 → Int32) × (Int32 → Int32) := (((gWh (fX4_packExactly_29 cs a ((nI a) &&& (-(nI a)))) 512 0 (a, (gup mo (nI a) (-4)), (gup le (nI a) 0))).2.1), ((gWh (fX4_packExactly_29 cs a ((nI a) &&& (-(nI a)))) 512 0 (a, (gup mo (nI a) (-4)), (gup le (nI a) 0))).2.2))
set_option maxRecDepth 100000 in
set_option maxHeartbeats 4000000 in
theorem MX4_packExactly {w : gW} {al : Bool} {tl rn ki ag co pa me dki dag dco dpa dme nt tnt os og cs mo le se ab : Int32 → Int32} {tn rp so rs wa be pr dso drs dwa dbe dpr nm nb nc nd ns np tnm tnb tnc tnd tns tnp ph kh oh pk pc lf cu cd : Int32} {pf : Nat → Option Nat} {pst kst : Nat → gS}  (a : Nat) (ha : a < 512)  : M w gT0 al mX4_packExactly 0 0 (hC tl tn rn rp ki ag co pa me so rs wa be pr dki dag dco dpa dme dso drs dwa dbe dpr nt nm nb nc nd ns np tnt tnm tnb tnc tnd tns tnp pf ph pst kh kst os og oh cs mo le se pk pc lf ab cu cd) [.ref 74, .int (nI a)] (gEq (hC tl tn rn rp ki ag co pa me so rs wa be pr dki dag dco dpa dme dso drs dwa dbe dpr nt nm nb nc nd ns np tnt tnm tnb tnc tnd tns tnp pf ph pst kh kst os og oh cs ((rX4_packExactly cs mo le a).1) ((rX4_packExactly cs mo le a).2) se pk pc lf ab cu cd) none) := by
  refine M.of (L0 := [.ref 74, .int (nI a), gF, gF, gF, gF, gF, gF]) (by decide +kernel) (Nat.le_of_ble_eq_true rfl) rfl ?_
  refine g_iload_n dX4_packExactly_0 rfl 1 rfl rfl ?_
  refine g_iload_n dX4_packExactly_1 rfl 2 rfl rfl ?_
  refine g_ineg dX4_packExactly_2 3 rfl ?_
  refine g_iand dX4_packExactly_3 4 rfl ?_
  refine g_istore2 dX4_packExactly_4 5 rfl (by decide) rfl ?_
  refine g_aload_n dX4_packExactly_5 rfl 6 rfl rfl ?_
  refine g_get (v := .ref 77) dX4_packExactly_6 9 rfl lX4_20 rfl rfl ?_
  refine g_iload_n dX4_packExactly_9 rfl 10 rfl rfl ?_
  refine g_bipush (-4) dX4_packExactly_10 12 rfl (by decide) ?_
  refine g_cV0 (as := [.int (nI a), .int (-4)]) (st := []) dX4_packExactly_12 15 rfl kX4_47 ⟨Nat.le_of_ble_eq_true rfl, Nat.le_of_ble_eq_true rfl⟩ (MX3_putN (k := 77) (j := 78) (N := 512) (f := mo) rfl rfl (by decide) a (by omega) (-4) (h' := (hC tl tn rn rp ki ag co pa me so rs wa be pr dki dag dco dpa dme dso drs dwa dbe dpr nt nm nb nc nd ns np tnt tnm tnb tnc tnd tns tnp pf ph pst kh kst os og oh cs (gup mo (nI a) (-4)) le se pk pc lf ab cu cd)) rfl) rfl rfl rfl rfl (Nat.le_of_ble_eq_true rfl) (Nat.le_refl _) (Nat.le_refl _) ?_
  refine g_aload_n dX4_packExactly_15 rfl 16 rfl rfl ?_
  refine g_get (v := .ref 79) dX4_packExactly_16 19 rfl lX4_23 rfl rfl ?_
  refine g_iload_n dX4_packExactly_19 rfl 20 rfl rfl ?_
  refine g_iconst 0 dX4_packExactly_20 21 rfl (by decide) ?_
  refine g_cV0 (as := [.int (nI a), .int 0]) (st := []) dX4_packExactly_21 24 rfl kX4_47 ⟨Nat.le_of_ble_eq_true rfl, Nat.le_of_ble_eq_true rfl⟩ (MX3_putN (k := 79) (j := 80) (N := 512) (f := le) rfl rfl (by decide) a (by omega) 0 (h' := (hC tl tn rn rp ki ag co pa me so rs wa be pr dki dag dco dpa dme dso drs dwa dbe dpr nt nm nb nc nd ns np tnt tnm tnb tnc tnd tns tnp pf ph pst kh kst os og oh cs (gup mo (nI a) (-4)) (gup le (nI a) 0) se pk pc lf ab cu cd)) rfl) rfl rfl rfl rfl (Nat.le_of_ble_eq_true rfl) (Nat.le_refl _) (Nat.le_refl _) ?_
  refine g_iload_n dX4_packExactly_24 rfl 25 rfl rfl ?_
  refine g_istore3 dX4_packExactly_25 26 rfl (by decide) rfl ?_
  refine g_iconst 0 dX4_packExactly_26 27 rfl (by decide) ?_
  refine g_istore4 dX4_packExactly_27 29 rfl (by decide) rfl ?_
  refine LX4_packExactly_29 (a := a) (by omega) 512 0 a (gup mo (nI a) (-4)) (gup le (nI a) 0) (by omega) (by omega) ?_
  refine g_return dX4_packExactly_185 rfl (Nat.le_refl _) (Nat.le_refl _) ?_
  have e : (rX4_packExactly cs mo le a) = (((gWh (fX4_packExactly_29 cs a ((nI a) &&& (-(nI a)))) 512 0 (a, (gup mo (nI a) (-4)), (gup le (nI a) 0))).2.1), ((gWh (fX4_packExactly_29 cs a ((nI a) &&& (-(nI a)))) 512 0 (a, (gup mo (nI a) (-4)), (gup le (nI a) 0))).2.2)) := by rw [rX4_packExactly]
  rw [e]
  exact ⟨rfl, rfl⟩
def fX4_pack_48 (cs : Int32 → Int32) (v : Nat) : Nat → ((Int32 → Int32) × (Int32 → Int32) × Int32 × Int32 × Int32) → ((Int32 → Int32) × (Int32 → Int32) × Int32 × Int32 × Int32)
  | i, (mo, le, pk, pc, lf) => (if (((rX4_packExactly cs mo le i).1) (nI i)) = (-4) then (((rX4_packExactly cs mo le i).1), ((rX4_packExactly cs mo le i).2), pk, pc, lf) else (((rX4_packExactly cs mo le i).1), ((rX4_packExactly cs mo le i).2), ((rX4_compareWay ((rX4_packExactly cs mo le i).1) ((rX4_packExactly cs mo le i).2) pk pc lf i (nI (andN v i))).1), ((rX4_compareWay ((rX4_packExactly cs mo le i).1) ((rX4_packExactly cs mo le i).2) pk pc lf i (nI (andN v i))).2.1), ((rX4_compareWay ((rX4_packExactly cs mo le i).1) ((rX4_packExactly cs mo le i).2) pk pc lf i (nI (andN v i))).2.2)))
set_option maxRecDepth 100000 in
set_option maxHeartbeats 4000000 in
theorem LX4_pack_48 {w : gW} {al : Bool} {tl rn ki ag co pa me dki dag dco dpa dme nt tnt os og cs se ab : Int32 → Int32} {tn rp wa be pr dso drs dwa dbe dpr nm ns np tnm tnb tnc tnd tns tnp ph kh oh cu cd : Int32} {pf : Nat → Option Nat} {pst kst : Nat → gS} {n : Nat} {P : gP} {sz bo cr de sd : Nat} {v : Nat} (hs : sz ≤ 9) (hsd : sd < 512)  : ∀ (d i : Nat) (mo : Int32 → Int32) (le : Int32 → Int32) (pk : Int32) (pc : Int32) (lf : Int32), i + d = 512 → G w gT0 al n mX4_pack 0 0 P 0 0 (hC tl tn rn rp ki ag co pa me (nI sd) (nI sz) wa be pr dki dag dco dpa dme dso drs dwa dbe dpr nt nm (nI bo) (nI cr) (nI de) ns np tnt tnm tnb tnc tnd tns tnp pf ph pst kh kst os og oh cs ((gLp (fX4_pack_48 cs v) d i (mo, le, pk, pc, lf)).1) ((gLp (fX4_pack_48 cs v) d i (mo, le, pk, pc, lf)).2.1) se ((gLp (fX4_pack_48 cs v) d i (mo, le, pk, pc, lf)).2.2.1) ((gLp (fX4_pack_48 cs v) d i (mo, le, pk, pc, lf)).2.2.2.1) ((gLp (fX4_pack_48 cs v) d i (mo, le, pk, pc, lf)).2.2.2.2) ab cu cd) 89 [.ref 74, .int (nI v), .int (nI 512)] [] → G w gT0 al n mX4_pack 0 0 P 0 0 (hC tl tn rn rp ki ag co pa me (nI sd) (nI sz) wa be pr dki dag dco dpa dme dso drs dwa dbe dpr nt nm (nI bo) (nI cr) (nI de) ns np tnt tnm tnb tnc tnd tns tnp pf ph pst kh kst os og oh cs mo le se pk pc lf ab cu cd) 48 [.ref 74, .int (nI v), .int (nI i)] [] := by
  intro d
  induction d with
  | zero =>
    intro i mo le pk pc lf hi k
    have hN : i = 512 := by omega
    rw [hN]
    rw [hN] at k
    refine g_iload_n dX4_pack_48 rfl 49 rfl rfl ?_
    refine g_sipush 512 dX4_pack_49 52 rfl (by decide) ?_
    refine g_icmp_ge dX4_pack_52 89 rfl 55 rfl (fun _ => ?_) (fun c => absurd (nI_le (a := 512) (b := 512) (by omega) (by omega)) c)
    exact k
  | succ d ih =>
    intro i mo le pk pc lf hi k
    refine g_iload_n dX4_pack_48 rfl 49 rfl rfl ?_
    refine g_sipush 512 dX4_pack_49 52 rfl (by decide) ?_
    refine g_icmp_ge dX4_pack_52 89 rfl 55 rfl (fun c => absurd c (nI_ge (a := i) (b := 512) (by omega) (by omega))) (fun _ => ?_)
    refine g_aload_n dX4_pack_55 rfl 56 rfl rfl ?_
    refine g_iload_n dX4_pack_56 rfl 57 rfl rfl ?_
    refine g_cV0 (as := [.int (nI i)]) (st := []) dX4_pack_57 60 rfl kX4_108 ⟨Nat.le_of_ble_eq_true rfl, Nat.le_of_ble_eq_true rfl⟩ (MX4_packExactly i (by omega)) rfl rfl rfl rfl (Nat.le_of_ble_eq_true rfl) (Nat.le_refl _) (Nat.le_refl _) ?_
    refine g_aload_n dX4_pack_60 rfl 61 rfl rfl ?_
    refine g_get (v := .ref 77) dX4_pack_61 64 rfl lX4_20 rfl rfl ?_
    refine g_iload_n dX4_pack_64 rfl 65 rfl rfl ?_
    refine g_cVv (as := [.int (nI i)]) (st := []) dX4_pack_65 68 rfl kX4_58 ⟨Nat.le_of_ble_eq_true rfl, Nat.le_of_ble_eq_true rfl⟩ (MX3_atN (k := 77) (j := 78) (N := 512) (f := ((rX4_packExactly cs mo le i).1)) rfl rfl (by decide) i (by omega)) rfl rfl rfl rfl (Nat.le_of_ble_eq_true rfl) (Nat.le_refl _) (Nat.le_refl _) ?_
    refine g_bipush (-4) dX4_pack_68 70 rfl (by decide) ?_
    refine g_icmp_eq dX4_pack_70 83 rfl 73 rfl (fun c1 => ?_) (fun c1 => ?_)
    · refine g_iinc2 dX4_pack_83 86 rfl 1 (by decide) (nI (i + 1)) (nI_add _ 1) (by decide) rfl ?_
      refine g_goto dX4_pack_86 48 rfl ?_
      have e : (fX4_pack_48 cs v) i (mo, le, pk, pc, lf) = (((rX4_packExactly cs mo le i).1), ((rX4_packExactly cs mo le i).2), pk, pc, lf) := by rw [fX4_pack_48, if_pos c1]
      refine ih (i + 1) ((rX4_packExactly cs mo le i).1) ((rX4_packExactly cs mo le i).2) pk pc lf (by omega) ?_
      rw [← e]
      exact k
    · refine g_aload_n dX4_pack_73 rfl 74 rfl rfl ?_
      refine g_iload_n dX4_pack_74 rfl 75 rfl rfl ?_
      refine g_iload_n dX4_pack_75 rfl 76 rfl rfl ?_
      refine g_iload_n dX4_pack_76 rfl 77 rfl rfl ?_
      refine g_iconst (-1) dX4_pack_77 78 rfl (by decide) ?_
      refine g_ixor dX4_pack_78 79 rfl ?_
      refine g_iand' dX4_pack_79 80 rfl (nI (andN v i)) (z_andN _ _) ?_
      refine g_cV0 (as := [.int (nI i), .int (nI (andN v i))]) (st := []) dX4_pack_80 83 rfl kX4_111 ⟨Nat.le_of_ble_eq_true rfl, Nat.le_of_ble_eq_true rfl⟩ (MX4_compareWay i (nI (andN v i)) (by omega)) rfl rfl rfl rfl (Nat.le_of_ble_eq_true rfl) (Nat.le_refl _) (Nat.le_refl _) ?_
      refine g_iinc2 dX4_pack_83 86 rfl 1 (by decide) (nI (i + 1)) (nI_add _ 1) (by decide) rfl ?_
      refine g_goto dX4_pack_86 48 rfl ?_
      have e : (fX4_pack_48 cs v) i (mo, le, pk, pc, lf) = (((rX4_packExactly cs mo le i).1), ((rX4_packExactly cs mo le i).2), ((rX4_compareWay ((rX4_packExactly cs mo le i).1) ((rX4_packExactly cs mo le i).2) pk pc lf i (nI (andN v i))).1), ((rX4_compareWay ((rX4_packExactly cs mo le i).1) ((rX4_packExactly cs mo le i).2) pk pc lf i (nI (andN v i))).2.1), ((rX4_compareWay ((rX4_packExactly cs mo le i).1) ((rX4_packExactly cs mo le i).2) pk pc lf i (nI (andN v i))).2.2)) := by rw [fX4_pack_48, if_neg c1]
      refine ih (i + 1) ((rX4_packExactly cs mo le i).1) ((rX4_packExactly cs mo le i).2) ((rX4_compareWay ((rX4_packExactly cs mo le i).1) ((rX4_packExactly cs mo le i).2) pk pc lf i (nI (andN v i))).1) ((rX4_compareWay ((rX4_packExactly cs mo le i).1) ((rX4_packExactly cs mo le i).2) pk pc lf i (nI (andN v i))).2.1) ((rX4_compareWay ((rX4_packExactly cs mo le i).1) ((rX4_packExactly cs mo le i).2) pk pc lf i (nI (andN v i))).2.2) (by omega) ?_
      rw [← e]
      exact k
def rX4_pack (ki : Int32 → Int32) (ag : Int32 → Int32) (me : Int32 → Int32) (wa : Int32) (be : Int32) (pr : Int32) (nt : Int32 → Int32) (cs : Int32 → Int32) (mo : Int32 → Int32) (le : Int32 → Int32) (sz : Nat) (cr : Nat) (de : Nat) (sd : Nat) : (Int32 → Int32) × (Int32 → Int32) × (Int32 → Int32) × Int32 × Int32 × Int32 := ((rX4_costAll ki ag me wa be pr nt cs (remN sz cr de) sz cr de sd), ((gLp (fX4_pack_48 (rX4_costAll ki ag me wa be pr nt cs (remN sz cr de) sz cr de sd) (remN sz cr de)) (512 - 1) 1 ((gup mo 0 0), (gup le 0 0), 0, 0, (nI (remN sz cr de)))).1), ((gLp (fX4_pack_48 (rX4_costAll ki ag me wa be pr nt cs (remN sz cr de) sz cr de sd) (remN sz cr de)) (512 - 1) 1 ((gup mo 0 0), (gup le 0 0), 0, 0, (nI (remN sz cr de)))).2.1), ((gLp (fX4_pack_48 (rX4_costAll ki ag me wa be pr nt cs (remN sz cr de) sz cr de sd) (remN sz cr de)) (512 - 1) 1 ((gup mo 0 0), (gup le 0 0), 0, 0, (nI (remN sz cr de)))).2.2.1), ((gLp (fX4_pack_48 (rX4_costAll ki ag me wa be pr nt cs (remN sz cr de) sz cr de sd) (remN sz cr de)) (512 - 1) 1 ((gup mo 0 0), (gup le 0 0), 0, 0, (nI (remN sz cr de)))).2.2.2.1), ((gLp (fX4_pack_48 (rX4_costAll ki ag me wa be pr nt cs (remN sz cr de) sz cr de sd) (remN sz cr de)) (512 - 1) 1 ((gup mo 0 0), (gup le 0 0), 0, 0, (nI (remN sz cr de)))).2.2.2.2))
set_option maxRecDepth 100000 in
set_option maxHeartbeats 4000000 in
theorem MX4_pack {w : gW} {al : Bool} {tl rn ki ag co pa me dki dag dco dpa dme nt tnt os og cs mo le se ab : Int32 → Int32} {tn rp wa be pr dso drs dwa dbe dpr nm ns np tnm tnb tnc tnd tns tnp ph kh oh pk pc lf cu cd : Int32} {pf : Nat → Option Nat} {pst kst : Nat → gS} {sz bo cr de sd : Nat} (hs : sz ≤ 9) (hsd : sd < 512)  : M w gT0 al mX4_pack 0 0 (hC tl tn rn rp ki ag co pa me (nI sd) (nI sz) wa be pr dki dag dco dpa dme dso drs dwa dbe dpr nt nm (nI bo) (nI cr) (nI de) ns np tnt tnm tnb tnc tnd tns tnp pf ph pst kh kst os og oh cs mo le se pk pc lf ab cu cd) [.ref 74] (gEq (hC tl tn rn rp ki ag co pa me (nI sd) (nI sz) wa be pr dki dag dco dpa dme dso drs dwa dbe dpr nt nm (nI bo) (nI cr) (nI de) ns np tnt tnm tnb tnc tnd tns tnp pf ph pst kh kst os og oh ((rX4_pack ki ag me wa be pr nt cs mo le sz cr de sd).1) ((rX4_pack ki ag me wa be pr nt cs mo le sz cr de sd).2.1) ((rX4_pack ki ag me wa be pr nt cs mo le sz cr de sd).2.2.1) se ((rX4_pack ki ag me wa be pr nt cs mo le sz cr de sd).2.2.2.1) ((rX4_pack ki ag me wa be pr nt cs mo le sz cr de sd).2.2.2.2.1) ((rX4_pack ki ag me wa be pr nt cs mo le sz cr de sd).2.2.2.2.2) ab cu cd) none) := by
  refine M.of (L0 := [.ref 74, gF, gF]) (by decide +kernel) (Nat.le_of_ble_eq_true rfl) rfl ?_
  refine g_aload_n dX4_pack_0 rfl 1 rfl rfl ?_
  refine g_get (v := .ref 29) dX4_pack_1 4 rfl lX4_33 rfl rfl ?_
  refine g_cVv (as := []) (st := []) dX4_pack_4 7 rfl kX4_69 ⟨Nat.le_of_ble_eq_true rfl, Nat.le_of_ble_eq_true rfl⟩ (MX6_remaining_29' (sz := sz) (bo := bo) (cr := cr) (de := de) (sd := sd) (by omega)) rfl rfl rfl rfl (Nat.le_of_ble_eq_true rfl) (Nat.le_refl _) (Nat.le_refl _) ?_
  refine g_istore1 dX4_pack_7 8 rfl (by decide) rfl ?_
  refine g_aload_n dX4_pack_8 rfl 9 rfl rfl ?_
  refine g_iload_n dX4_pack_9 rfl 10 rfl rfl ?_
  refine g_cV0 (as := [.int (nI (remN sz cr de))]) (st := []) dX4_pack_10 13 rfl kX4_55 ⟨Nat.le_of_ble_eq_true rfl, Nat.le_of_ble_eq_true rfl⟩ (MX4_costAll (sz := sz) (bo := bo) (cr := cr) (de := de) (sd := sd) (remN sz cr de) (by omega) (by omega)) rfl rfl rfl rfl (Nat.le_of_ble_eq_true rfl) (Nat.le_refl _) (Nat.le_refl _) ?_
  refine g_aload_n dX4_pack_13 rfl 14 rfl rfl ?_
  refine g_iconst 0 dX4_pack_14 15 rfl (by decide) ?_
  refine g_put dX4_pack_15 18 rfl lX4_99 wrX4 rfl rfl rfl rfl rfl (Nat.le_of_ble_eq_true rfl) (h' := (hC tl tn rn rp ki ag co pa me (nI sd) (nI sz) wa be pr dki dag dco dpa dme dso drs dwa dbe dpr nt nm (nI bo) (nI cr) (nI de) ns np tnt tnm tnb tnc tnd tns tnp pf ph pst kh kst os og oh (rX4_costAll ki ag me wa be pr nt cs (remN sz cr de) sz cr de sd) mo le se 0 pc lf ab cu cd)) rfl ?_
  refine g_aload_n dX4_pack_18 rfl 19 rfl rfl ?_
  refine g_iconst 0 dX4_pack_19 20 rfl (by decide) ?_
  refine g_put dX4_pack_20 23 rfl lX4_102 wrX4 rfl rfl rfl rfl rfl (Nat.le_of_ble_eq_true rfl) (h' := (hC tl tn rn rp ki ag co pa me (nI sd) (nI sz) wa be pr dki dag dco dpa dme dso drs dwa dbe dpr nt nm (nI bo) (nI cr) (nI de) ns np tnt tnm tnb tnc tnd tns tnp pf ph pst kh kst os og oh (rX4_costAll ki ag me wa be pr nt cs (remN sz cr de) sz cr de sd) mo le se 0 0 lf ab cu cd)) rfl ?_
  refine g_aload_n dX4_pack_23 rfl 24 rfl rfl ?_
  refine g_iload_n dX4_pack_24 rfl 25 rfl rfl ?_
  refine g_put dX4_pack_25 28 rfl lX4_105 wrX4 rfl rfl rfl rfl rfl (Nat.le_of_ble_eq_true rfl) (h' := (hC tl tn rn rp ki ag co pa me (nI sd) (nI sz) wa be pr dki dag dco dpa dme dso drs dwa dbe dpr nt nm (nI bo) (nI cr) (nI de) ns np tnt tnm tnb tnc tnd tns tnp pf ph pst kh kst os og oh (rX4_costAll ki ag me wa be pr nt cs (remN sz cr de) sz cr de sd) mo le se 0 0 (nI (remN sz cr de)) ab cu cd)) rfl ?_
  refine g_aload_n dX4_pack_28 rfl 29 rfl rfl ?_
  refine g_get (v := .ref 77) dX4_pack_29 32 rfl lX4_20 rfl rfl ?_
  refine g_iconst 0 dX4_pack_32 33 rfl (by decide) ?_
  refine g_iconst 0 dX4_pack_33 34 rfl (by decide) ?_
  refine g_cV0 (as := [.int 0, .int 0]) (st := []) dX4_pack_34 37 rfl kX4_47 ⟨Nat.le_of_ble_eq_true rfl, Nat.le_of_ble_eq_true rfl⟩ (MX3_putN (k := 77) (j := 78) (N := 512) (f := mo) rfl rfl (by decide) 0 (by omega) 0 (h' := (hC tl tn rn rp ki ag co pa me (nI sd) (nI sz) wa be pr dki dag dco dpa dme dso drs dwa dbe dpr nt nm (nI bo) (nI cr) (nI de) ns np tnt tnm tnb tnc tnd tns tnp pf ph pst kh kst os og oh (rX4_costAll ki ag me wa be pr nt cs (remN sz cr de) sz cr de sd) (gup mo 0 0) le se 0 0 (nI (remN sz cr de)) ab cu cd)) rfl) rfl rfl rfl rfl (Nat.le_of_ble_eq_true rfl) (Nat.le_refl _) (Nat.le_refl _) ?_
  refine g_aload_n dX4_pack_37 rfl 38 rfl rfl ?_
  refine g_get (v := .ref 79) dX4_pack_38 41 rfl lX4_23 rfl rfl ?_
  refine g_iconst 0 dX4_pack_41 42 rfl (by decide) ?_
  refine g_iconst 0 dX4_pack_42 43 rfl (by decide) ?_
  refine g_cV0 (as := [.int 0, .int 0]) (st := []) dX4_pack_43 46 rfl kX4_47 ⟨Nat.le_of_ble_eq_true rfl, Nat.le_of_ble_eq_true rfl⟩ (MX3_putN (k := 79) (j := 80) (N := 512) (f := le) rfl rfl (by decide) 0 (by omega) 0 (h' := (hC tl tn rn rp ki ag co pa me (nI sd) (nI sz) wa be pr dki dag dco dpa dme dso drs dwa dbe dpr nt nm (nI bo) (nI cr) (nI de) ns np tnt tnm tnb tnc tnd tns tnp pf ph pst kh kst os og oh (rX4_costAll ki ag me wa be pr nt cs (remN sz cr de) sz cr de sd) (gup mo 0 0) (gup le 0 0) se 0 0 (nI (remN sz cr de)) ab cu cd)) rfl) rfl rfl rfl rfl (Nat.le_of_ble_eq_true rfl) (Nat.le_refl _) (Nat.le_refl _) ?_
  refine g_iconst 1 dX4_pack_46 47 rfl (by decide) ?_
  refine g_istore2 dX4_pack_47 48 rfl (by decide) rfl ?_
  refine LX4_pack_48 (v := (remN sz cr de)) (by omega) (by omega) (512 - 1) 1 (gup mo 0 0) (gup le 0 0) 0 0 (nI (remN sz cr de)) (by omega) ?_
  refine g_return dX4_pack_89 rfl (Nat.le_refl _) (Nat.le_refl _) ?_
  have e : (rX4_pack ki ag me wa be pr nt cs mo le sz cr de sd) = ((rX4_costAll ki ag me wa be pr nt cs (remN sz cr de) sz cr de sd), ((gLp (fX4_pack_48 (rX4_costAll ki ag me wa be pr nt cs (remN sz cr de) sz cr de sd) (remN sz cr de)) (512 - 1) 1 ((gup mo 0 0), (gup le 0 0), 0, 0, (nI (remN sz cr de)))).1), ((gLp (fX4_pack_48 (rX4_costAll ki ag me wa be pr nt cs (remN sz cr de) sz cr de sd) (remN sz cr de)) (512 - 1) 1 ((gup mo 0 0), (gup le 0 0), 0, 0, (nI (remN sz cr de)))).2.1), ((gLp (fX4_pack_48 (rX4_costAll ki ag me wa be pr nt cs (remN sz cr de) sz cr de sd) (remN sz cr de)) (512 - 1) 1 ((gup mo 0 0), (gup le 0 0), 0, 0, (nI (remN sz cr de)))).2.2.1), ((gLp (fX4_pack_48 (rX4_costAll ki ag me wa be pr nt cs (remN sz cr de) sz cr de sd) (remN sz cr de)) (512 - 1) 1 ((gup mo 0 0), (gup le 0 0), 0, 0, (nI (remN sz cr de)))).2.2.2.1), ((gLp (fX4_pack_48 (rX4_costAll ki ag me wa be pr nt cs (remN sz cr de) sz cr de sd) (remN sz cr de)) (512 - 1) 1 ((gup mo 0 0), (gup le 0 0), 0, 0, (nI (remN sz cr de)))).2.2.2.2)) := by rw [rX4_pack]
  rw [e]
  try dsimp only
  exact ⟨rfl, rfl⟩
