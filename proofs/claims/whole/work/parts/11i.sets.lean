/-! the class: Sets -/
def fX4_costAll_2 (ki : Int32 → Int32) (ag : Int32 → Int32) (me : Int32 → Int32) (wa : Int32) (be : Int32) (pr : Int32) (nt : Int32 → Int32) (v : Nat) (sz : Nat) (cr : Nat) (de : Nat) (sd : Nat) : Nat → (Int32 → Int32) → (Int32 → Int32)
  | i, cs => (if (rX9_within (nI i) (nI v)) = true then (gup cs (nI i) (rX6_costOf_29 ki ag me wa be pr nt i sz cr de sd)) else (gup cs (nI i) (-4)))
set_option maxRecDepth 100000 in
set_option maxHeartbeats 4000000 in
theorem LX4_costAll_2 {w : gW} {al : Bool} {tl rn ki ag co pa me dki dag dco dpa dme nt tnt os og mo le se ab : Int32 → Int32} {tn rp wa be pr dso drs dwa dbe dpr nm ns np tnm tnb tnc tnd tns tnp ph kh oh pk pc lf cu cd : Int32} {pf : Nat → Option Nat} {pst kst : Nat → gS} {n : Nat} {P : gP} {sz bo cr de sd : Nat} {v : Nat} (hs : sz ≤ 9) (hsd : sd < 512)  : ∀ (d i : Nat) (cs : Int32 → Int32), i + d = 512 → G w gT0 al n mX4_costAll 0 0 P 0 0 (hC tl tn rn rp ki ag co pa me (nI sd) (nI sz) wa be pr dki dag dco dpa dme dso drs dwa dbe dpr nt nm (nI bo) (nI cr) (nI de) ns np tnt tnm tnb tnc tnd tns tnp pf ph pst kh kst os og oh (gLp (fX4_costAll_2 ki ag me wa be pr nt v sz cr de sd) d i cs) mo le se pk pc lf ab cu cd) 44 [.ref 74, .int (nI v), .int (nI 512)] [] → G w gT0 al n mX4_costAll 0 0 P 0 0 (hC tl tn rn rp ki ag co pa me (nI sd) (nI sz) wa be pr dki dag dco dpa dme dso drs dwa dbe dpr nt nm (nI bo) (nI cr) (nI de) ns np tnt tnm tnb tnc tnd tns tnp pf ph pst kh kst os og oh cs mo le se pk pc lf ab cu cd) 2 [.ref 74, .int (nI v), .int (nI i)] [] := by
  intro d
  induction d with
  | zero =>
    intro i cs hi k
    have hN : i = 512 := by omega
    rw [hN]
    rw [hN] at k
    refine g_iload_n dX4_costAll_2 rfl 3 rfl rfl ?_
    refine g_sipush 512 dX4_costAll_3 6 rfl (by decide) ?_
    refine g_icmp_ge dX4_costAll_6 44 rfl 9 rfl (fun _ => ?_) (fun c => absurd (nI_le (a := 512) (b := 512) (by omega) (by omega)) c)
    exact k
  | succ d ih =>
    intro i cs hi k
    refine g_iload_n dX4_costAll_2 rfl 3 rfl rfl ?_
    refine g_sipush 512 dX4_costAll_3 6 rfl (by decide) ?_
    refine g_icmp_ge dX4_costAll_6 44 rfl 9 rfl (fun c => absurd c (nI_ge (a := i) (b := 512) (by omega) (by omega))) (fun _ => ?_)
    refine g_aload_n dX4_costAll_9 rfl 10 rfl rfl ?_
    refine g_get (v := .ref 75) dX4_costAll_10 13 rfl lX4_14 rfl rfl ?_
    refine g_iload_n dX4_costAll_13 rfl 14 rfl rfl ?_
    refine g_iload_n dX4_costAll_14 rfl 15 rfl rfl ?_
    refine g_iload_n dX4_costAll_15 rfl 16 rfl rfl ?_
    refine g_cSNv (as := [.int (nI i), .int (nI v)]) (st := [.int (nI i), .ref 75]) dX4_costAll_16 19 rfl kX4_37 ⟨Nat.le_of_ble_eq_true rfl, Nat.le_of_ble_eq_true rfl⟩ (MX9_within (nI i) (nI v)) rfl (Nat.le_of_ble_eq_true rfl) (Nat.le_refl _) (Nat.le_refl _) ?_
    refine g_if_eq dX4_costAll_19 33 rfl 22 rfl (fun c1 => ?_) (fun c1 => ?_)
    · replace c1 := gB_f c1
      refine g_bipush (-4) dX4_costAll_33 35 rfl (by decide) ?_
      refine g_cV0 (as := [.int (nI i), .int (-4)]) (st := []) dX4_costAll_35 38 rfl kX4_47 ⟨Nat.le_of_ble_eq_true rfl, Nat.le_of_ble_eq_true rfl⟩ (MX3_putN (k := 75) (j := 76) (N := 512) (f := cs) rfl rfl (by decide) i (by omega) (-4) (h' := (hC tl tn rn rp ki ag co pa me (nI sd) (nI sz) wa be pr dki dag dco dpa dme dso drs dwa dbe dpr nt nm (nI bo) (nI cr) (nI de) ns np tnt tnm tnb tnc tnd tns tnp pf ph pst kh kst os og oh (gup cs (nI i) (-4)) mo le se pk pc lf ab cu cd)) rfl) rfl rfl rfl rfl (Nat.le_of_ble_eq_true rfl) (Nat.le_refl _) (Nat.le_refl _) ?_
      refine g_iinc2 dX4_costAll_38 41 rfl 1 (by decide) (nI (i + 1)) (nI_add _ 1) (by decide) rfl ?_
      refine g_goto dX4_costAll_41 2 rfl ?_
      have e : (fX4_costAll_2 ki ag me wa be pr nt v sz cr de sd) i cs = (gup cs (nI i) (-4)) := by rw [fX4_costAll_2, if_neg c1]
      refine ih (i + 1) (gup cs (nI i) (-4)) (by omega) ?_
      rw [← e]
      exact k
    · replace c1 := gB_t c1
      refine g_aload_n dX4_costAll_22 rfl 23 rfl rfl ?_
      refine g_get (v := .ref 29) dX4_costAll_23 26 rfl lX4_33 rfl rfl ?_
      refine g_iload_n dX4_costAll_26 rfl 27 rfl rfl ?_
      refine g_cVv (as := [.int (nI i)]) (st := [.int (nI i), .ref 75]) dX4_costAll_27 30 rfl kX4_41 ⟨Nat.le_of_ble_eq_true rfl, Nat.le_of_ble_eq_true rfl⟩ (MX6_costOf_29 (sz := sz) (bo := bo) (cr := cr) (de := de) (sd := sd) i (by omega) (by omega) (by omega)) rfl rfl rfl rfl (Nat.le_of_ble_eq_true rfl) (Nat.le_refl _) (Nat.le_refl _) ?_
      refine g_goto dX4_costAll_30 35 rfl ?_
      refine g_cV0 (as := [.int (nI i), .int (rX6_costOf_29 ki ag me wa be pr nt i sz cr de sd)]) (st := []) dX4_costAll_35 38 rfl kX4_47 ⟨Nat.le_of_ble_eq_true rfl, Nat.le_of_ble_eq_true rfl⟩ (MX3_putN (k := 75) (j := 76) (N := 512) (f := cs) rfl rfl (by decide) i (by omega) (rX6_costOf_29 ki ag me wa be pr nt i sz cr de sd) (h' := (hC tl tn rn rp ki ag co pa me (nI sd) (nI sz) wa be pr dki dag dco dpa dme dso drs dwa dbe dpr nt nm (nI bo) (nI cr) (nI de) ns np tnt tnm tnb tnc tnd tns tnp pf ph pst kh kst os og oh (gup cs (nI i) (rX6_costOf_29 ki ag me wa be pr nt i sz cr de sd)) mo le se pk pc lf ab cu cd)) rfl) rfl rfl rfl rfl (Nat.le_of_ble_eq_true rfl) (Nat.le_refl _) (Nat.le_refl _) ?_
      refine g_iinc2 dX4_costAll_38 41 rfl 1 (by decide) (nI (i + 1)) (nI_add _ 1) (by decide) rfl ?_
      refine g_goto dX4_costAll_41 2 rfl ?_
      have e : (fX4_costAll_2 ki ag me wa be pr nt v sz cr de sd) i cs = (gup cs (nI i) (rX6_costOf_29 ki ag me wa be pr nt i sz cr de sd)) := by rw [fX4_costAll_2, if_pos c1]
      refine ih (i + 1) (gup cs (nI i) (rX6_costOf_29 ki ag me wa be pr nt i sz cr de sd)) (by omega) ?_
      rw [← e]
      exact k
def rX4_costAll (ki : Int32 → Int32) (ag : Int32 → Int32) (me : Int32 → Int32) (wa : Int32) (be : Int32) (pr : Int32) (nt : Int32 → Int32) (cs : Int32 → Int32) (v : Nat) (sz : Nat) (cr : Nat) (de : Nat) (sd : Nat) : (Int32 → Int32) := (gLp (fX4_costAll_2 ki ag me wa be pr nt v sz cr de sd) 512 0 cs)
set_option maxRecDepth 100000 in
set_option maxHeartbeats 4000000 in
theorem MX4_costAll {w : gW} {al : Bool} {tl rn ki ag co pa me dki dag dco dpa dme nt tnt os og cs mo le se ab : Int32 → Int32} {tn rp wa be pr dso drs dwa dbe dpr nm ns np tnm tnb tnc tnd tns tnp ph kh oh pk pc lf cu cd : Int32} {pf : Nat → Option Nat} {pst kst : Nat → gS} {sz bo cr de sd : Nat} (v : Nat) (hs : sz ≤ 9) (hsd : sd < 512)  : M w gT0 al mX4_costAll 0 0 (hC tl tn rn rp ki ag co pa me (nI sd) (nI sz) wa be pr dki dag dco dpa dme dso drs dwa dbe dpr nt nm (nI bo) (nI cr) (nI de) ns np tnt tnm tnb tnc tnd tns tnp pf ph pst kh kst os og oh cs mo le se pk pc lf ab cu cd) [.ref 74, .int (nI v)] (gEq (hC tl tn rn rp ki ag co pa me (nI sd) (nI sz) wa be pr dki dag dco dpa dme dso drs dwa dbe dpr nt nm (nI bo) (nI cr) (nI de) ns np tnt tnm tnb tnc tnd tns tnp pf ph pst kh kst os og oh (rX4_costAll ki ag me wa be pr nt cs v sz cr de sd) mo le se pk pc lf ab cu cd) none) := by
  refine M.of (L0 := [.ref 74, .int (nI v), gF]) (by decide +kernel) (Nat.le_of_ble_eq_true rfl) rfl ?_
  refine g_iconst 0 dX4_costAll_0 1 rfl (by decide) ?_
  refine g_istore2 dX4_costAll_1 2 rfl (by decide) rfl ?_
  refine LX4_costAll_2 (v := v) (by omega) (by omega) 512 0 cs (by omega) ?_
  refine g_return dX4_costAll_44 rfl (Nat.le_refl _) (Nat.le_refl _) ?_
  have e : (rX4_costAll ki ag me wa be pr nt cs v sz cr de sd) = (gLp (fX4_costAll_2 ki ag me wa be pr nt v sz cr de sd) 512 0 cs) := by rw [rX4_costAll]
  rw [e]
  exact ⟨rfl, rfl⟩
def rX4_isBetter (cs : Int32 → Int32) (a : Nat) (ol : Int32) : Bool := (if (cs (nI a)) = (rAt 512 cs ol) then (if (rJ6_bitCount_0f7a4 ol) ≤ (nI (tOnes a)) then false else true) else (if (rAt 512 cs ol) ≤ (cs (nI a)) then false else true))
set_option maxRecDepth 100000 in
set_option maxHeartbeats 4000000 in
theorem MX4_isBetter {w : gW} {al : Bool} {tl rn ki ag co pa me dki dag dco dpa dme nt tnt os og cs mo le se ab : Int32 → Int32} {tn rp so rs wa be pr dso drs dwa dbe dpr nm nb nc nd ns np tnm tnb tnc tnd tns tnp ph kh oh pk pc lf cu cd : Int32} {pf : Nat → Option Nat} {pst kst : Nat → gS}  (a : Nat) (ol : Int32) (ha : a < 512)  : M w gT0 al mX4_isBetter 0 0 (hC tl tn rn rp ki ag co pa me so rs wa be pr dki dag dco dpa dme dso drs dwa dbe dpr nt nm nb nc nd ns np tnt tnm tnb tnc tnd tns tnp pf ph pst kh kst os og oh cs mo le se pk pc lf ab cu cd) [.ref 74, .int (nI a), .int ol] (gEq (hC tl tn rn rp ki ag co pa me so rs wa be pr dki dag dco dpa dme dso drs dwa dbe dpr nt nm nb nc nd ns np tnt tnm tnb tnc tnd tns tnp pf ph pst kh kst os og oh cs mo le se pk pc lf ab cu cd) (some (.int (gB (rX4_isBetter cs a ol))))) := by
  refine M.of (L0 := [.ref 74, .int (nI a), .int ol]) (by decide +kernel) (Nat.le_of_ble_eq_true rfl) rfl ?_
  refine g_aload_n dX4_isBetter_0 rfl 1 rfl rfl ?_
  refine g_get (v := .ref 75) dX4_isBetter_1 4 rfl lX4_14 rfl rfl ?_
  refine g_iload_n dX4_isBetter_4 rfl 5 rfl rfl ?_
  refine g_cVv (as := [.int (nI a)]) (st := []) dX4_isBetter_5 8 rfl kX4_58 ⟨Nat.le_of_ble_eq_true rfl, Nat.le_of_ble_eq_true rfl⟩ (MX3_atN (k := 75) (j := 76) (N := 512) (f := cs) rfl rfl (by decide) a (by omega)) rfl rfl rfl rfl (Nat.le_of_ble_eq_true rfl) (Nat.le_refl _) (Nat.le_refl _) ?_
  refine g_aload_n dX4_isBetter_8 rfl 9 rfl rfl ?_
  refine g_get (v := .ref 75) dX4_isBetter_9 12 rfl lX4_14 rfl rfl ?_
  refine g_iload_n dX4_isBetter_12 rfl 13 rfl rfl ?_
  refine g_cVv (as := [.int ol]) (st := [.int (cs (nI a))]) dX4_isBetter_13 16 rfl kX4_58 ⟨Nat.le_of_ble_eq_true rfl, Nat.le_of_ble_eq_true rfl⟩ (MX3_at (k := 75) (j := 76) (N := 512) (f := cs) rfl rfl (by decide) ol) rfl rfl rfl rfl (Nat.le_of_ble_eq_true rfl) (Nat.le_refl _) (Nat.le_refl _) ?_
  refine g_icmp_eq dX4_isBetter_16 44 rfl 19 rfl (fun c1 => ?_) (fun c1 => ?_)
  · refine g_iload_n dX4_isBetter_44 rfl 45 rfl rfl ?_
    refine g_cSv (as := [.int (nI a)]) (st := []) dX4_isBetter_45 48 rfl kX4_64 ⟨Nat.le_of_ble_eq_true rfl, Nat.le_of_ble_eq_true rfl⟩ (MJ6_bitCount a (by omega)) rfl (Nat.le_of_ble_eq_true rfl) (Nat.le_refl _) (Nat.le_refl _) ?_
    refine g_iload_n dX4_isBetter_48 rfl 49 rfl rfl ?_
    refine g_cSv (as := [.int ol]) (st := [.int (nI (tOnes a))]) dX4_isBetter_49 52 rfl kX4_64 ⟨Nat.le_of_ble_eq_true rfl, Nat.le_of_ble_eq_true rfl⟩ (MJ6_bitCount_0f7a4 ol) rfl (Nat.le_of_ble_eq_true rfl) (Nat.le_refl _) (Nat.le_refl _) ?_
    refine g_icmp_ge dX4_isBetter_52 59 rfl 55 rfl (fun c2 => ?_) (fun c2 => ?_)
    · refine g_iconst 0 dX4_isBetter_59 60 rfl (by decide) ?_
      refine g_ireturn dX4_isBetter_60 rfl rfl (Nat.le_refl _) (Nat.le_refl _) ?_
      have e : (rX4_isBetter cs a ol) = false := by rw [rX4_isBetter, if_pos c1, if_pos c2]
      rw [e]
      exact ⟨rfl, rfl⟩
    · refine g_iconst 1 dX4_isBetter_55 56 rfl (by decide) ?_
      refine g_goto dX4_isBetter_56 60 rfl ?_
      refine g_ireturn dX4_isBetter_60 rfl rfl (Nat.le_refl _) (Nat.le_refl _) ?_
      have e : (rX4_isBetter cs a ol) = true := by rw [rX4_isBetter, if_pos c1, if_neg c2]
      rw [e]
      exact ⟨rfl, rfl⟩
  · refine g_aload_n dX4_isBetter_19 rfl 20 rfl rfl ?_
    refine g_get (v := .ref 75) dX4_isBetter_20 23 rfl lX4_14 rfl rfl ?_
    refine g_iload_n dX4_isBetter_23 rfl 24 rfl rfl ?_
    refine g_cVv (as := [.int (nI a)]) (st := []) dX4_isBetter_24 27 rfl kX4_58 ⟨Nat.le_of_ble_eq_true rfl, Nat.le_of_ble_eq_true rfl⟩ (MX3_atN (k := 75) (j := 76) (N := 512) (f := cs) rfl rfl (by decide) a (by omega)) rfl rfl rfl rfl (Nat.le_of_ble_eq_true rfl) (Nat.le_refl _) (Nat.le_refl _) ?_
    refine g_aload_n dX4_isBetter_27 rfl 28 rfl rfl ?_
    refine g_get (v := .ref 75) dX4_isBetter_28 31 rfl lX4_14 rfl rfl ?_
    refine g_iload_n dX4_isBetter_31 rfl 32 rfl rfl ?_
    refine g_cVv (as := [.int ol]) (st := [.int (cs (nI a))]) dX4_isBetter_32 35 rfl kX4_58 ⟨Nat.le_of_ble_eq_true rfl, Nat.le_of_ble_eq_true rfl⟩ (MX3_at (k := 75) (j := 76) (N := 512) (f := cs) rfl rfl (by decide) ol) rfl rfl rfl rfl (Nat.le_of_ble_eq_true rfl) (Nat.le_refl _) (Nat.le_refl _) ?_
    refine g_icmp_ge dX4_isBetter_35 42 rfl 38 rfl (fun c3 => ?_) (fun c3 => ?_)
    · refine g_iconst 0 dX4_isBetter_42 43 rfl (by decide) ?_
      refine g_ireturn dX4_isBetter_43 rfl rfl (Nat.le_refl _) (Nat.le_refl _) ?_
      have e : (rX4_isBetter cs a ol) = false := by rw [rX4_isBetter, if_neg c1, if_pos c3]
      rw [e]
      exact ⟨rfl, rfl⟩
    · refine g_iconst 1 dX4_isBetter_38 39 rfl (by decide) ?_
      refine g_goto dX4_isBetter_39 43 rfl ?_
      refine g_ireturn dX4_isBetter_43 rfl rfl (Nat.le_refl _) (Nat.le_refl _) ?_
      have e : (rX4_isBetter cs a ol) = true := by rw [rX4_isBetter, if_neg c1, if_neg c3]
      rw [e]
      exact ⟨rfl, rfl⟩
def fX4_cheapest_16 (cs : Int32 → Int32) : Nat → (Int32) → (Int32)
  | i, u0 => (if (cs (nI i)) = (-4) then u0 else (if u0 = (-4) then (nI i) else (if (rX4_isBetter cs i u0) = true then (nI i) else u0)))
set_option maxRecDepth 100000 in
set_option maxHeartbeats 4000000 in
theorem LX4_cheapest_16 {w : gW} {al : Bool} {tl rn ki ag co pa me dki dag dco dpa dme nt tnt os og cs mo le se ab : Int32 → Int32} {tn rp wa be pr dso drs dwa dbe dpr nm ns np tnm tnb tnc tnd tns tnp ph kh oh pk pc lf cu cd : Int32} {pf : Nat → Option Nat} {pst kst : Nat → gS} {n : Nat} {P : gP} {sz bo cr de sd : Nat} (hs : sz ≤ 9) (hsd : sd < 512)  : ∀ (d i : Nat) (u0 : Int32), i + d = 512 → G w gT0 al n mX4_cheapest 0 0 P 0 0 (hC tl tn rn rp ki ag co pa me (nI sd) (nI sz) wa be pr dki dag dco dpa dme dso drs dwa dbe dpr nt nm (nI bo) (nI cr) (nI de) ns np tnt tnm tnb tnc tnd tns tnp pf ph pst kh kst os og oh cs mo le se pk pc lf ab cu cd) 59 [.ref 74, .int (gLp (fX4_cheapest_16 cs) d i u0), .int (nI 512)] [] → G w gT0 al n mX4_cheapest 0 0 P 0 0 (hC tl tn rn rp ki ag co pa me (nI sd) (nI sz) wa be pr dki dag dco dpa dme dso drs dwa dbe dpr nt nm (nI bo) (nI cr) (nI de) ns np tnt tnm tnb tnc tnd tns tnp pf ph pst kh kst os og oh cs mo le se pk pc lf ab cu cd) 16 [.ref 74, .int u0, .int (nI i)] [] := by
  intro d
  induction d with
  | zero =>
    intro i u0 hi k
    have hN : i = 512 := by omega
    rw [hN]
    rw [hN] at k
    refine g_iload_n dX4_cheapest_16 rfl 17 rfl rfl ?_
    refine g_sipush 512 dX4_cheapest_17 20 rfl (by decide) ?_
    refine g_icmp_ge dX4_cheapest_20 59 rfl 23 rfl (fun _ => ?_) (fun c => absurd (nI_le (a := 512) (b := 512) (by omega) (by omega)) c)
    exact k
  | succ d ih =>
    intro i u0 hi k
    refine g_iload_n dX4_cheapest_16 rfl 17 rfl rfl ?_
    refine g_sipush 512 dX4_cheapest_17 20 rfl (by decide) ?_
    refine g_icmp_ge dX4_cheapest_20 59 rfl 23 rfl (fun c => absurd c (nI_ge (a := i) (b := 512) (by omega) (by omega))) (fun _ => ?_)
    refine g_aload_n dX4_cheapest_23 rfl 24 rfl rfl ?_
    refine g_get (v := .ref 75) dX4_cheapest_24 27 rfl lX4_14 rfl rfl ?_
    refine g_iload_n dX4_cheapest_27 rfl 28 rfl rfl ?_
    refine g_cVv (as := [.int (nI i)]) (st := []) dX4_cheapest_28 31 rfl kX4_58 ⟨Nat.le_of_ble_eq_true rfl, Nat.le_of_ble_eq_true rfl⟩ (MX3_atN (k := 75) (j := 76) (N := 512) (f := cs) rfl rfl (by decide) i (by omega)) rfl rfl rfl rfl (Nat.le_of_ble_eq_true rfl) (Nat.le_refl _) (Nat.le_refl _) ?_
    refine g_bipush (-4) dX4_cheapest_31 33 rfl (by decide) ?_
    refine g_icmp_eq dX4_cheapest_33 53 rfl 36 rfl (fun c1 => ?_) (fun c1 => ?_)
    · refine g_iinc2 dX4_cheapest_53 56 rfl 1 (by decide) (nI (i + 1)) (nI_add _ 1) (by decide) rfl ?_
      refine g_goto dX4_cheapest_56 16 rfl ?_
      have e : (fX4_cheapest_16 cs) i u0 = u0 := by rw [fX4_cheapest_16, if_pos c1]
      refine ih (i + 1) u0 (by omega) ?_
      rw [← e]
      exact k
    · refine g_iload_n dX4_cheapest_36 rfl 37 rfl rfl ?_
      refine g_bipush (-4) dX4_cheapest_37 39 rfl (by decide) ?_
      refine g_icmp_eq dX4_cheapest_39 51 rfl 42 rfl (fun c2 => ?_) (fun c2 => ?_)
      · refine g_iload_n dX4_cheapest_51 rfl 52 rfl rfl ?_
        refine g_istore1 dX4_cheapest_52 53 rfl (by decide) rfl ?_
        refine g_iinc2 dX4_cheapest_53 56 rfl 1 (by decide) (nI (i + 1)) (nI_add _ 1) (by decide) rfl ?_
        refine g_goto dX4_cheapest_56 16 rfl ?_
        have e : (fX4_cheapest_16 cs) i u0 = (nI i) := by rw [fX4_cheapest_16, if_neg c1, if_pos c2]
        refine ih (i + 1) (nI i) (by omega) ?_
        rw [← e]
        exact k
      · refine g_aload_n dX4_cheapest_42 rfl 43 rfl rfl ?_
        refine g_iload_n dX4_cheapest_43 rfl 44 rfl rfl ?_
        refine g_iload_n dX4_cheapest_44 rfl 45 rfl rfl ?_
        refine g_cVv (as := [.int (nI i), .int u0]) (st := []) dX4_cheapest_45 48 rfl kX4_61 ⟨Nat.le_of_ble_eq_true rfl, Nat.le_of_ble_eq_true rfl⟩ (MX4_isBetter i u0 (by omega)) rfl rfl rfl rfl (Nat.le_of_ble_eq_true rfl) (Nat.le_refl _) (Nat.le_refl _) ?_
        refine g_if_eq dX4_cheapest_48 53 rfl 51 rfl (fun c3 => ?_) (fun c3 => ?_)
        · replace c3 := gB_f c3
          refine g_iinc2 dX4_cheapest_53 56 rfl 1 (by decide) (nI (i + 1)) (nI_add _ 1) (by decide) rfl ?_
          refine g_goto dX4_cheapest_56 16 rfl ?_
          have e : (fX4_cheapest_16 cs) i u0 = u0 := by rw [fX4_cheapest_16, if_neg c1, if_neg c2, if_neg c3]
          refine ih (i + 1) u0 (by omega) ?_
          rw [← e]
          exact k
        · replace c3 := gB_t c3
          refine g_iload_n dX4_cheapest_51 rfl 52 rfl rfl ?_
          refine g_istore1 dX4_cheapest_52 53 rfl (by decide) rfl ?_
          refine g_iinc2 dX4_cheapest_53 56 rfl 1 (by decide) (nI (i + 1)) (nI_add _ 1) (by decide) rfl ?_
          refine g_goto dX4_cheapest_56 16 rfl ?_
          have e : (fX4_cheapest_16 cs) i u0 = (nI i) := by rw [fX4_cheapest_16, if_neg c1, if_neg c2, if_pos c3]
          refine ih (i + 1) (nI i) (by omega) ?_
          rw [← e]
          exact k
def rX4_cheapest (ki : Int32 → Int32) (ag : Int32 → Int32) (co : Int32 → Int32) (me : Int32 → Int32) (wa : Int32) (be : Int32) (pr : Int32) (nt : Int32 → Int32) (nm : Int32) (cs : Int32 → Int32) (sz : Nat) (cr : Nat) (de : Nat) (sd : Nat) : Int32 × (Int32 → Int32) := ((gLp (fX4_cheapest_16 (rX4_costAll ki ag me wa be pr nt cs (presN co nm sz cr de) sz cr de sd)) (512 - 1) 1 (-4)), (rX4_costAll ki ag me wa be pr nt cs (presN co nm sz cr de) sz cr de sd))
set_option maxRecDepth 100000 in
set_option maxHeartbeats 4000000 in
theorem MX4_cheapest {w : gW} {al : Bool} {tl rn ki ag co pa me dki dag dco dpa dme nt tnt os og cs mo le se ab : Int32 → Int32} {tn rp wa be pr dso drs dwa dbe dpr nm ns np tnm tnb tnc tnd tns tnp ph kh oh pk pc lf cu cd : Int32} {pf : Nat → Option Nat} {pst kst : Nat → gS} {sz bo cr de sd : Nat} (hs : sz ≤ 9) (hsd : sd < 512)  : M w gT0 al mX4_cheapest 0 0 (hC tl tn rn rp ki ag co pa me (nI sd) (nI sz) wa be pr dki dag dco dpa dme dso drs dwa dbe dpr nt nm (nI bo) (nI cr) (nI de) ns np tnt tnm tnb tnc tnd tns tnp pf ph pst kh kst os og oh cs mo le se pk pc lf ab cu cd) [.ref 74] (gEq (hC tl tn rn rp ki ag co pa me (nI sd) (nI sz) wa be pr dki dag dco dpa dme dso drs dwa dbe dpr nt nm (nI bo) (nI cr) (nI de) ns np tnt tnm tnb tnc tnd tns tnp pf ph pst kh kst os og oh ((rX4_cheapest ki ag co me wa be pr nt nm cs sz cr de sd).2) mo le se pk pc lf ab cu cd) (some (.int ((rX4_cheapest ki ag co me wa be pr nt nm cs sz cr de sd).1)))) := by
  refine M.of (L0 := [.ref 74, gF, gF]) (by decide +kernel) (Nat.le_of_ble_eq_true rfl) rfl ?_
  refine g_aload_n dX4_cheapest_0 rfl 1 rfl rfl ?_
  refine g_aload_n dX4_cheapest_1 rfl 2 rfl rfl ?_
  refine g_get (v := .ref 29) dX4_cheapest_2 5 rfl lX4_33 rfl rfl ?_
  refine g_cVv (as := []) (st := [.ref 74]) dX4_cheapest_5 8 rfl kX4_51 ⟨Nat.le_of_ble_eq_true rfl, Nat.le_of_ble_eq_true rfl⟩ (MX6_present_29' (sz := sz) (bo := bo) (cr := cr) (de := de) (sd := sd) (by omega)) rfl rfl rfl rfl (Nat.le_of_ble_eq_true rfl) (Nat.le_refl _) (Nat.le_refl _) ?_
  refine g_cV0 (as := [.int (nI (presN co nm sz cr de))]) (st := []) dX4_cheapest_8 11 rfl kX4_55 ⟨Nat.le_of_ble_eq_true rfl, Nat.le_of_ble_eq_true rfl⟩ (MX4_costAll (sz := sz) (bo := bo) (cr := cr) (de := de) (sd := sd) (presN co nm sz cr de) (by omega) (by omega)) rfl rfl rfl rfl (Nat.le_of_ble_eq_true rfl) (Nat.le_refl _) (Nat.le_refl _) ?_
  refine g_bipush (-4) dX4_cheapest_11 13 rfl (by decide) ?_
  refine g_istore1 dX4_cheapest_13 14 rfl (by decide) rfl ?_
  refine g_iconst 1 dX4_cheapest_14 15 rfl (by decide) ?_
  refine g_istore2 dX4_cheapest_15 16 rfl (by decide) rfl ?_
  refine LX4_cheapest_16  (by omega) (by omega) (512 - 1) 1 (-4) (by omega) ?_
  refine g_iload_n dX4_cheapest_59 rfl 60 rfl rfl ?_
  refine g_ireturn dX4_cheapest_60 rfl rfl (Nat.le_refl _) (Nat.le_refl _) ?_
  have e : (rX4_cheapest ki ag co me wa be pr nt nm cs sz cr de sd) = ((gLp (fX4_cheapest_16 (rX4_costAll ki ag me wa be pr nt cs (presN co nm sz cr de) sz cr de sd)) (512 - 1) 1 (-4)), (rX4_costAll ki ag me wa be pr nt cs (presN co nm sz cr de) sz cr de sd)) := by rw [rX4_cheapest]
  rw [e]
  try dsimp only
  exact ⟨rfl, rfl⟩
def fX4_waitFor_4 (co : Int32 → Int32) (nm : Int32) (a : Nat) : Nat → (Int32) → (Int32)
  | i, u0 => (if (a.testBit i) = true then (maxI u0 ((co (nI i)) - nm)) else u0)
set_option maxRecDepth 100000 in
set_option maxHeartbeats 4000000 in
theorem LX4_waitFor_4 {w : gW} {al : Bool} {tl rn ki ag co pa me dki dag dco dpa dme nt tnt os og cs mo le se ab : Int32 → Int32} {tn rp so wa be pr dso drs dwa dbe dpr nm nb nc nd ns np tnm tnb tnc tnd tns tnp ph kh oh pk pc lf cu cd : Int32} {pf : Nat → Option Nat} {pst kst : Nat → gS} {n : Nat} {P : gP} {sz : Nat} {a : Nat} (hs : sz ≤ 9) (ha : a < 512)  : ∀ (d i : Nat) (u0 : Int32), i + d = sz → G w gT0 al n mX4_waitFor 0 0 P 0 0 (hC tl tn rn rp ki ag co pa me so (nI sz) wa be pr dki dag dco dpa dme dso drs dwa dbe dpr nt nm nb nc nd ns np tnt tnm tnb tnc tnd tns tnp pf ph pst kh kst os og oh cs mo le se pk pc lf ab cu cd) 53 [.ref 74, .int (nI a), .int (gLp (fX4_waitFor_4 co nm a) d i u0), .int (nI sz)] [] → G w gT0 al n mX4_waitFor 0 0 P 0 0 (hC tl tn rn rp ki ag co pa me so (nI sz) wa be pr dki dag dco dpa dme dso drs dwa dbe dpr nt nm nb nc nd ns np tnt tnm tnb tnc tnd tns tnp pf ph pst kh kst os og oh cs mo le se pk pc lf ab cu cd) 4 [.ref 74, .int (nI a), .int u0, .int (nI i)] [] := by
  intro d
  induction d with
  | zero =>
    intro i u0 hi k
    have hN : i = sz := by omega
    rw [hN]
    rw [hN] at k
    refine g_iload_n dX4_waitFor_4 rfl 5 rfl rfl ?_
    refine g_aload_n dX4_waitFor_5 rfl 6 rfl rfl ?_
    refine g_get (v := .ref 7) dX4_waitFor_6 9 rfl lX4_29 rfl rfl ?_
    refine g_get (v := .int (nI sz)) dX4_waitFor_9 12 rfl lX4_81 rfl rfl ?_
    refine g_icmp_ge dX4_waitFor_12 53 rfl 15 rfl (fun _ => ?_) (fun c => absurd (nI_le (Nat.le_refl _) (by omega)) c)
    exact k
  | succ d ih =>
    intro i u0 hi k
    refine g_iload_n dX4_waitFor_4 rfl 5 rfl rfl ?_
    refine g_aload_n dX4_waitFor_5 rfl 6 rfl rfl ?_
    refine g_get (v := .ref 7) dX4_waitFor_6 9 rfl lX4_29 rfl rfl ?_
    refine g_get (v := .int (nI sz)) dX4_waitFor_9 12 rfl lX4_81 rfl rfl ?_
    refine g_icmp_ge dX4_waitFor_12 53 rfl 15 rfl (fun c => absurd c (nI_ge (by omega) (by omega))) (fun _ => ?_)
    refine g_iload_n dX4_waitFor_15 rfl 16 rfl rfl ?_
    refine g_iload_n dX4_waitFor_16 rfl 17 rfl rfl ?_
    refine g_cSNv (as := [.int (nI a), .int (nI i)]) (st := []) dX4_waitFor_17 20 rfl kX4_87 ⟨Nat.le_of_ble_eq_true rfl, Nat.le_of_ble_eq_true rfl⟩ (MX9_has a i (by omega) (by omega)) rfl (Nat.le_of_ble_eq_true rfl) (Nat.le_refl _) (Nat.le_refl _) ?_
    refine g_if_eq dX4_waitFor_20 47 rfl 23 rfl (fun c1 => ?_) (fun c1 => ?_)
    · replace c1 := gB_f c1
      refine g_iinc3 dX4_waitFor_47 50 rfl 1 (by decide) (nI (i + 1)) (nI_add _ 1) (by decide) rfl ?_
      refine g_goto dX4_waitFor_50 4 rfl ?_
      have e : (fX4_waitFor_4 co nm a) i u0 = u0 := by rw [fX4_waitFor_4, if_neg c1]
      refine ih (i + 1) u0 (by omega) ?_
      rw [← e]
      exact k
    · replace c1 := gB_t c1
      refine g_iload_n dX4_waitFor_23 rfl 24 rfl rfl ?_
      refine g_aload_n dX4_waitFor_24 rfl 25 rfl rfl ?_
      refine g_get (v := .ref 7) dX4_waitFor_25 28 rfl lX4_29 rfl rfl ?_
      refine g_get (v := .ref 12) dX4_waitFor_28 31 rfl lX4_90 rfl rfl ?_
      refine g_iload_n dX4_waitFor_31 rfl 32 rfl rfl ?_
      refine g_cVv (as := [.int (nI i)]) (st := [.int u0]) dX4_waitFor_32 35 rfl kX4_58 ⟨Nat.le_of_ble_eq_true rfl, Nat.le_of_ble_eq_true rfl⟩ (MX3_atN (k := 12) (j := 13) (N := 9) (f := co) rfl rfl (by decide) i (by omega)) rfl rfl rfl rfl (Nat.le_of_ble_eq_true rfl) (Nat.le_refl _) (Nat.le_refl _) ?_
      refine g_aload_n dX4_waitFor_35 rfl 36 rfl rfl ?_
      refine g_get (v := .ref 29) dX4_waitFor_36 39 rfl lX4_33 rfl rfl ?_
      refine g_get (v := .int nm) dX4_waitFor_39 42 rfl lX4_93 rfl rfl ?_
      refine g_isub dX4_waitFor_42 43 rfl ?_
      refine g_mmax dX4_waitFor_43 46 rfl qX4_96 (by decide) (by decide) (Nat.le_of_ble_eq_true rfl) (Nat.le_refl _) (Nat.le_refl _) (maxI u0 ((co (nI i)) - nm)) rfl ?_
      refine g_istore2 dX4_waitFor_46 47 rfl (by decide) rfl ?_
      refine g_iinc3 dX4_waitFor_47 50 rfl 1 (by decide) (nI (i + 1)) (nI_add _ 1) (by decide) rfl ?_
      refine g_goto dX4_waitFor_50 4 rfl ?_
      have e : (fX4_waitFor_4 co nm a) i u0 = (maxI u0 ((co (nI i)) - nm)) := by rw [fX4_waitFor_4, if_pos c1]
      refine ih (i + 1) (maxI u0 ((co (nI i)) - nm)) (by omega) ?_
      rw [← e]
      exact k
def rX4_waitFor (co : Int32 → Int32) (nm : Int32) (a : Nat) (sz : Nat) : Int32 := (gLp (fX4_waitFor_4 co nm a) sz 0 0)
set_option maxRecDepth 100000 in
set_option maxHeartbeats 4000000 in
theorem MX4_waitFor {w : gW} {al : Bool} {tl rn ki ag co pa me dki dag dco dpa dme nt tnt os og cs mo le se ab : Int32 → Int32} {tn rp so wa be pr dso drs dwa dbe dpr nm nb nc nd ns np tnm tnb tnc tnd tns tnp ph kh oh pk pc lf cu cd : Int32} {pf : Nat → Option Nat} {pst kst : Nat → gS} {sz : Nat} (a : Nat) (hs : sz ≤ 9) (ha : a < 512)  : M w gT0 al mX4_waitFor 0 0 (hC tl tn rn rp ki ag co pa me so (nI sz) wa be pr dki dag dco dpa dme dso drs dwa dbe dpr nt nm nb nc nd ns np tnt tnm tnb tnc tnd tns tnp pf ph pst kh kst os og oh cs mo le se pk pc lf ab cu cd) [.ref 74, .int (nI a)] (gEq (hC tl tn rn rp ki ag co pa me so (nI sz) wa be pr dki dag dco dpa dme dso drs dwa dbe dpr nt nm nb nc nd ns np tnt tnm tnb tnc tnd tns tnp pf ph pst kh kst os og oh cs mo le se pk pc lf ab cu cd) (some (.int (rX4_waitFor co nm a sz)))) := by
  refine M.of (L0 := [.ref 74, .int (nI a), gF, gF]) (by decide +kernel) (Nat.le_of_ble_eq_true rfl) rfl ?_
  refine g_iconst 0 dX4_waitFor_0 1 rfl (by decide) ?_
  refine g_istore2 dX4_waitFor_1 2 rfl (by decide) rfl ?_
  refine g_iconst 0 dX4_waitFor_2 3 rfl (by decide) ?_
  refine g_istore3 dX4_waitFor_3 4 rfl (by decide) rfl ?_
  refine LX4_waitFor_4 (a := a) (by omega) (by omega) sz 0 0 (by omega) ?_
  refine g_iload_n dX4_waitFor_53 rfl 54 rfl rfl ?_
  refine g_ireturn dX4_waitFor_54 rfl rfl (Nat.le_refl _) (Nat.le_refl _) ?_
  have e : (rX4_waitFor co nm a sz) = (gLp (fX4_waitFor_4 co nm a) sz 0 0) := by rw [rX4_waitFor]
  rw [e]
  exact ⟨rfl, rfl⟩
def fX4_shortestWait_16 (co : Int32 → Int32) (nm : Int32) (cs : Int32 → Int32) (sz : Nat) : Nat → (Int32) → (Int32)
  | i, u0 => (if (cs (nI i)) = (-4) then u0 else (if u0 = (-4) then (rX4_waitFor co nm i sz) else (minI u0 (rX4_waitFor co nm i sz))))
set_option maxRecDepth 100000 in
set_option maxHeartbeats 4000000 in
theorem LX4_shortestWait_16 {w : gW} {al : Bool} {tl rn ki ag co pa me dki dag dco dpa dme nt tnt os og cs mo le se ab : Int32 → Int32} {tn rp wa be pr dso drs dwa dbe dpr nm ns np tnm tnb tnc tnd tns tnp ph kh oh pk pc lf cu cd : Int32} {pf : Nat → Option Nat} {pst kst : Nat → gS} {n : Nat} {P : gP} {sz bo cr de sd : Nat} (hs : sz ≤ 9) (hsd : sd < 512)  : ∀ (d i : Nat) (u0 : Int32), i + d = 512 → G w gT0 al n mX4_shortestWait 0 0 P 0 0 (hC tl tn rn rp ki ag co pa me (nI sd) (nI sz) wa be pr dki dag dco dpa dme dso drs dwa dbe dpr nt nm (nI bo) (nI cr) (nI de) ns np tnt tnm tnb tnc tnd tns tnp pf ph pst kh kst os og oh cs mo le se pk pc lf ab cu cd) 64 [.ref 74, .int (gLp (fX4_shortestWait_16 co nm cs sz) d i u0), .int (nI 512), gF] [] → G w gT0 al n mX4_shortestWait 0 0 P 0 0 (hC tl tn rn rp ki ag co pa me (nI sd) (nI sz) wa be pr dki dag dco dpa dme dso drs dwa dbe dpr nt nm (nI bo) (nI cr) (nI de) ns np tnt tnm tnb tnc tnd tns tnp pf ph pst kh kst os og oh cs mo le se pk pc lf ab cu cd) 16 [.ref 74, .int u0, .int (nI i), gF] [] := by
  intro d
  induction d with
  | zero =>
    intro i u0 hi k
    have hN : i = 512 := by omega
    rw [hN]
    rw [hN] at k
    refine g_iload_n dX4_shortestWait_16 rfl 17 rfl rfl ?_
    refine g_sipush 512 dX4_shortestWait_17 20 rfl (by decide) ?_
    refine g_icmp_ge dX4_shortestWait_20 64 rfl 23 rfl (fun _ => ?_) (fun c => absurd (nI_le (a := 512) (b := 512) (by omega) (by omega)) c)
    exact k
  | succ d ih =>
    intro i u0 hi k
    refine g_iload_n dX4_shortestWait_16 rfl 17 rfl rfl ?_
    refine g_sipush 512 dX4_shortestWait_17 20 rfl (by decide) ?_
    refine g_icmp_ge dX4_shortestWait_20 64 rfl 23 rfl (fun c => absurd c (nI_ge (a := i) (b := 512) (by omega) (by omega))) (fun _ => ?_)
    refine g_aload_n dX4_shortestWait_23 rfl 24 rfl rfl ?_
    refine g_get (v := .ref 75) dX4_shortestWait_24 27 rfl lX4_14 rfl rfl ?_
    refine g_iload_n dX4_shortestWait_27 rfl 28 rfl rfl ?_
    refine g_cVv (as := [.int (nI i)]) (st := []) dX4_shortestWait_28 31 rfl kX4_58 ⟨Nat.le_of_ble_eq_true rfl, Nat.le_of_ble_eq_true rfl⟩ (MX3_atN (k := 75) (j := 76) (N := 512) (f := cs) rfl rfl (by decide) i (by omega)) rfl rfl rfl rfl (Nat.le_of_ble_eq_true rfl) (Nat.le_refl _) (Nat.le_refl _) ?_
    refine g_bipush (-4) dX4_shortestWait_31 33 rfl (by decide) ?_
    refine g_icmp_eq dX4_shortestWait_33 58 rfl 36 rfl (fun c1 => ?_) (fun c1 => ?_)
    · refine g_iinc2 dX4_shortestWait_58 61 rfl 1 (by decide) (nI (i + 1)) (nI_add _ 1) (by decide) rfl ?_
      refine g_goto dX4_shortestWait_61 16 rfl ?_
      have e : (fX4_shortestWait_16 co nm cs sz) i u0 = u0 := by rw [fX4_shortestWait_16, if_pos c1]
      refine ih (i + 1) u0 (by omega) ?_
      rw [← e]
      exact k
    · refine g_aload_n dX4_shortestWait_36 rfl 37 rfl rfl ?_
      refine g_iload_n dX4_shortestWait_37 rfl 38 rfl rfl ?_
      refine g_cVv (as := [.int (nI i)]) (st := []) dX4_shortestWait_38 41 rfl kX4_72 ⟨Nat.le_of_ble_eq_true rfl, Nat.le_of_ble_eq_true rfl⟩ (MX4_waitFor (sz := sz) i (by omega) (by omega)) rfl rfl rfl rfl (Nat.le_of_ble_eq_true rfl) (Nat.le_refl _) (Nat.le_refl _) ?_
      refine g_istore3 dX4_shortestWait_41 42 rfl (by decide) rfl ?_
      refine g_iload_n dX4_shortestWait_42 rfl 43 rfl rfl ?_
      refine g_bipush (-4) dX4_shortestWait_43 45 rfl (by decide) ?_
      refine g_icmp_ne dX4_shortestWait_45 52 rfl 48 rfl (fun c2 => ?_) (fun c2 => ?_)
      · refine g_iload_n dX4_shortestWait_52 rfl 53 rfl rfl ?_
        refine g_iload_n dX4_shortestWait_53 rfl 54 rfl rfl ?_
        refine g_mmin dX4_shortestWait_54 57 rfl qX4_75 (by decide) (by decide) (Nat.le_of_ble_eq_true rfl) (Nat.le_refl _) (Nat.le_refl _) (minI u0 (rX4_waitFor co nm i sz)) rfl ?_
        refine g_istore1 dX4_shortestWait_57 58 rfl (by decide) rfl ?_
        refine g_iinc2 dX4_shortestWait_58 61 rfl 1 (by decide) (nI (i + 1)) (nI_add _ 1) (by decide) rfl ?_
        refine g_goto dX4_shortestWait_61 16 rfl ?_
        refine g_fgt (L' := [.ref 74, .int (minI u0 (rX4_waitFor co nm i sz)), .int (nI (i + 1)), gF]) ⟨Or.inl rfl, Or.inl rfl, Or.inl rfl, Or.inr rfl, trivial⟩ ?_
        have e : (fX4_shortestWait_16 co nm cs sz) i u0 = (minI u0 (rX4_waitFor co nm i sz)) := by rw [fX4_shortestWait_16, if_neg c1, if_neg c2]
        refine ih (i + 1) (minI u0 (rX4_waitFor co nm i sz)) (by omega) ?_
        rw [← e]
        exact k
      · refine g_iload_n dX4_shortestWait_48 rfl 49 rfl rfl ?_
        refine g_goto dX4_shortestWait_49 57 rfl ?_
        refine g_istore1 dX4_shortestWait_57 58 rfl (by decide) rfl ?_
        refine g_iinc2 dX4_shortestWait_58 61 rfl 1 (by decide) (nI (i + 1)) (nI_add _ 1) (by decide) rfl ?_
        refine g_goto dX4_shortestWait_61 16 rfl ?_
        refine g_fgt (L' := [.ref 74, .int (rX4_waitFor co nm i sz), .int (nI (i + 1)), gF]) ⟨Or.inl rfl, Or.inl rfl, Or.inl rfl, Or.inr rfl, trivial⟩ ?_
        have e : (fX4_shortestWait_16 co nm cs sz) i u0 = (rX4_waitFor co nm i sz) := by rw [fX4_shortestWait_16, if_neg c1, if_pos c2]
        refine ih (i + 1) (rX4_waitFor co nm i sz) (by omega) ?_
        rw [← e]
        exact k
def rX4_shortestWait (ki : Int32 → Int32) (ag : Int32 → Int32) (co : Int32 → Int32) (me : Int32 → Int32) (wa : Int32) (be : Int32) (pr : Int32) (nt : Int32 → Int32) (nm : Int32) (cs : Int32 → Int32) (sz : Nat) (cr : Nat) (de : Nat) (sd : Nat) : Int32 × (Int32 → Int32) := ((gLp (fX4_shortestWait_16 co nm (rX4_costAll ki ag me wa be pr nt cs (remN sz cr de) sz cr de sd) sz) (512 - 1) 1 (-4)), (rX4_costAll ki ag me wa be pr nt cs (remN sz cr de) sz cr de sd))
set_option maxRecDepth 100000 in
set_option maxHeartbeats 4000000 in
theorem MX4_shortestWait {w : gW} {al : Bool} {tl rn ki ag co pa me dki dag dco dpa dme nt tnt os og cs mo le se ab : Int32 → Int32} {tn rp wa be pr dso drs dwa dbe dpr nm ns np tnm tnb tnc tnd tns tnp ph kh oh pk pc lf cu cd : Int32} {pf : Nat → Option Nat} {pst kst : Nat → gS} {sz bo cr de sd : Nat} (hs : sz ≤ 9) (hsd : sd < 512)  : M w gT0 al mX4_shortestWait 0 0 (hC tl tn rn rp ki ag co pa me (nI sd) (nI sz) wa be pr dki dag dco dpa dme dso drs dwa dbe dpr nt nm (nI bo) (nI cr) (nI de) ns np tnt tnm tnb tnc tnd tns tnp pf ph pst kh kst os og oh cs mo le se pk pc lf ab cu cd) [.ref 74] (gEq (hC tl tn rn rp ki ag co pa me (nI sd) (nI sz) wa be pr dki dag dco dpa dme dso drs dwa dbe dpr nt nm (nI bo) (nI cr) (nI de) ns np tnt tnm tnb tnc tnd tns tnp pf ph pst kh kst os og oh ((rX4_shortestWait ki ag co me wa be pr nt nm cs sz cr de sd).2) mo le se pk pc lf ab cu cd) (some (.int ((rX4_shortestWait ki ag co me wa be pr nt nm cs sz cr de sd).1)))) := by
  refine M.of (L0 := [.ref 74, gF, gF, gF]) (by decide +kernel) (Nat.le_of_ble_eq_true rfl) rfl ?_
  refine g_aload_n dX4_shortestWait_0 rfl 1 rfl rfl ?_
  refine g_aload_n dX4_shortestWait_1 rfl 2 rfl rfl ?_
  refine g_get (v := .ref 29) dX4_shortestWait_2 5 rfl lX4_33 rfl rfl ?_
  refine g_cVv (as := []) (st := [.ref 74]) dX4_shortestWait_5 8 rfl kX4_69 ⟨Nat.le_of_ble_eq_true rfl, Nat.le_of_ble_eq_true rfl⟩ (MX6_remaining_29' (sz := sz) (bo := bo) (cr := cr) (de := de) (sd := sd) (by omega)) rfl rfl rfl rfl (Nat.le_of_ble_eq_true rfl) (Nat.le_refl _) (Nat.le_refl _) ?_
  refine g_cV0 (as := [.int (nI (remN sz cr de))]) (st := []) dX4_shortestWait_8 11 rfl kX4_55 ⟨Nat.le_of_ble_eq_true rfl, Nat.le_of_ble_eq_true rfl⟩ (MX4_costAll (sz := sz) (bo := bo) (cr := cr) (de := de) (sd := sd) (remN sz cr de) (by omega) (by omega)) rfl rfl rfl rfl (Nat.le_of_ble_eq_true rfl) (Nat.le_refl _) (Nat.le_refl _) ?_
  refine g_bipush (-4) dX4_shortestWait_11 13 rfl (by decide) ?_
  refine g_istore1 dX4_shortestWait_13 14 rfl (by decide) rfl ?_
  refine g_iconst 1 dX4_shortestWait_14 15 rfl (by decide) ?_
  refine g_istore2 dX4_shortestWait_15 16 rfl (by decide) rfl ?_
  refine LX4_shortestWait_16  (by omega) (by omega) (512 - 1) 1 (-4) (by omega) ?_
  refine g_iload_n dX4_shortestWait_64 rfl 65 rfl rfl ?_
  refine g_ireturn dX4_shortestWait_65 rfl rfl (Nat.le_refl _) (Nat.le_refl _) ?_
  have e : (rX4_shortestWait ki ag co me wa be pr nt nm cs sz cr de sd) = ((gLp (fX4_shortestWait_16 co nm (rX4_costAll ki ag me wa be pr nt cs (remN sz cr de) sz cr de sd) sz) (512 - 1) 1 (-4)), (rX4_costAll ki ag me wa be pr nt cs (remN sz cr de) sz cr de sd)) := by rw [rX4_shortestWait]
  rw [e]
  try dsimp only
  exact ⟨rfl, rfl⟩
def fX4_manyWith_15 (cs : Int32 → Int32) (p : Nat) : Nat → (Nat) → (Nat)
  | i, u0 => (if (i.testBit p) = true then (if (cs (nI i)) = (-4) then u0 else (u0 + 1)) else u0)
set_option maxRecDepth 100000 in
set_option maxHeartbeats 4000000 in
theorem LX4_manyWith_15 {w : gW} {al : Bool} {tl rn ki ag co pa me dki dag dco dpa dme nt tnt os og cs mo le se ab : Int32 → Int32} {tn rp wa be pr dso drs dwa dbe dpr nm ns np tnm tnb tnc tnd tns tnp ph kh oh pk pc lf cu cd : Int32} {pf : Nat → Option Nat} {pst kst : Nat → gS} {n : Nat} {P : gP} {sz bo cr de sd : Nat} {p : Nat} (hs : sz ≤ 9) (hsd : sd < 512) (hp : p < 9)  : ∀ (d i : Nat) (u0 : Nat), i + d = 512 → G w gT0 al n mX4_manyWith 0 0 P 0 0 (hC tl tn rn rp ki ag co pa me (nI sd) (nI sz) wa be pr dki dag dco dpa dme dso drs dwa dbe dpr nt nm (nI bo) (nI cr) (nI de) ns np tnt tnm tnb tnc tnd tns tnp pf ph pst kh kst os og oh cs mo le se pk pc lf ab cu cd) 52 [.ref 74, .int (nI p), .int (nI (gLp (fX4_manyWith_15 cs p) d i u0)), .int (nI 512)] [] → G w gT0 al n mX4_manyWith 0 0 P 0 0 (hC tl tn rn rp ki ag co pa me (nI sd) (nI sz) wa be pr dki dag dco dpa dme dso drs dwa dbe dpr nt nm (nI bo) (nI cr) (nI de) ns np tnt tnm tnb tnc tnd tns tnp pf ph pst kh kst os og oh cs mo le se pk pc lf ab cu cd) 15 [.ref 74, .int (nI p), .int (nI u0), .int (nI i)] [] := by
  intro d
  induction d with
  | zero =>
    intro i u0 hi k
    have hN : i = 512 := by omega
    rw [hN]
    rw [hN] at k
    refine g_iload_n dX4_manyWith_15 rfl 16 rfl rfl ?_
    refine g_sipush 512 dX4_manyWith_16 19 rfl (by decide) ?_
    refine g_icmp_ge dX4_manyWith_19 52 rfl 22 rfl (fun _ => ?_) (fun c => absurd (nI_le (a := 512) (b := 512) (by omega) (by omega)) c)
    exact k
  | succ d ih =>
    intro i u0 hi k
    refine g_iload_n dX4_manyWith_15 rfl 16 rfl rfl ?_
    refine g_sipush 512 dX4_manyWith_16 19 rfl (by decide) ?_
    refine g_icmp_ge dX4_manyWith_19 52 rfl 22 rfl (fun c => absurd c (nI_ge (a := i) (b := 512) (by omega) (by omega))) (fun _ => ?_)
    refine g_iload_n dX4_manyWith_22 rfl 23 rfl rfl ?_
    refine g_iload_n dX4_manyWith_23 rfl 24 rfl rfl ?_
    refine g_cSNv (as := [.int (nI i), .int (nI p)]) (st := []) dX4_manyWith_24 27 rfl kX4_87 ⟨Nat.le_of_ble_eq_true rfl, Nat.le_of_ble_eq_true rfl⟩ (MX9_has i p (by omega) (by omega)) rfl (Nat.le_of_ble_eq_true rfl) (Nat.le_refl _) (Nat.le_refl _) ?_
    refine g_if_eq dX4_manyWith_27 46 rfl 30 rfl (fun c1 => ?_) (fun c1 => ?_)
    · replace c1 := gB_f c1
      refine g_iinc3 dX4_manyWith_46 49 rfl 1 (by decide) (nI (i + 1)) (nI_add _ 1) (by decide) rfl ?_
      refine g_goto dX4_manyWith_49 15 rfl ?_
      have e : (fX4_manyWith_15 cs p) i u0 = u0 := by rw [fX4_manyWith_15, if_neg c1]
      refine ih (i + 1) u0 (by omega) ?_
      rw [← e]
      exact k
    · replace c1 := gB_t c1
      refine g_aload_n dX4_manyWith_30 rfl 31 rfl rfl ?_
      refine g_get (v := .ref 75) dX4_manyWith_31 34 rfl lX4_14 rfl rfl ?_
      refine g_iload_n dX4_manyWith_34 rfl 35 rfl rfl ?_
      refine g_cVv (as := [.int (nI i)]) (st := []) dX4_manyWith_35 38 rfl kX4_58 ⟨Nat.le_of_ble_eq_true rfl, Nat.le_of_ble_eq_true rfl⟩ (MX3_atN (k := 75) (j := 76) (N := 512) (f := cs) rfl rfl (by decide) i (by omega)) rfl rfl rfl rfl (Nat.le_of_ble_eq_true rfl) (Nat.le_refl _) (Nat.le_refl _) ?_
      refine g_bipush (-4) dX4_manyWith_38 40 rfl (by decide) ?_
      refine g_icmp_eq dX4_manyWith_40 46 rfl 43 rfl (fun c2 => ?_) (fun c2 => ?_)
      · refine g_iinc3 dX4_manyWith_46 49 rfl 1 (by decide) (nI (i + 1)) (nI_add _ 1) (by decide) rfl ?_
        refine g_goto dX4_manyWith_49 15 rfl ?_
        have e : (fX4_manyWith_15 cs p) i u0 = u0 := by rw [fX4_manyWith_15, if_pos c1, if_pos c2]
        refine ih (i + 1) u0 (by omega) ?_
        rw [← e]
        exact k
      · refine g_iinc2 dX4_manyWith_43 46 rfl 1 (by decide) (nI (u0 + 1)) (nI_add _ 1) (by decide) rfl ?_
        refine g_iinc3 dX4_manyWith_46 49 rfl 1 (by decide) (nI (i + 1)) (nI_add _ 1) (by decide) rfl ?_
        refine g_goto dX4_manyWith_49 15 rfl ?_
        have e : (fX4_manyWith_15 cs p) i u0 = (u0 + 1) := by rw [fX4_manyWith_15, if_pos c1, if_neg c2]
        refine ih (i + 1) (u0 + 1) (by omega) ?_
        rw [← e]
        exact k
def rX4_manyWith (ki : Int32 → Int32) (ag : Int32 → Int32) (co : Int32 → Int32) (me : Int32 → Int32) (wa : Int32) (be : Int32) (pr : Int32) (nt : Int32 → Int32) (nm : Int32) (cs : Int32 → Int32) (p : Nat) (sz : Nat) (cr : Nat) (de : Nat) (sd : Nat) : Int32 × (Int32 → Int32) := ((nI (gLp (fX4_manyWith_15 (rX4_costAll ki ag me wa be pr nt cs (presN co nm sz cr de) sz cr de sd) p) (512 - 1) 1 0)), (rX4_costAll ki ag me wa be pr nt cs (presN co nm sz cr de) sz cr de sd))
set_option maxRecDepth 100000 in
set_option maxHeartbeats 4000000 in
theorem MX4_manyWith {w : gW} {al : Bool} {tl rn ki ag co pa me dki dag dco dpa dme nt tnt os og cs mo le se ab : Int32 → Int32} {tn rp wa be pr dso drs dwa dbe dpr nm ns np tnm tnb tnc tnd tns tnp ph kh oh pk pc lf cu cd : Int32} {pf : Nat → Option Nat} {pst kst : Nat → gS} {sz bo cr de sd : Nat} (p : Nat) (hs : sz ≤ 9) (hsd : sd < 512) (hp : p < 9)  : M w gT0 al mX4_manyWith 0 0 (hC tl tn rn rp ki ag co pa me (nI sd) (nI sz) wa be pr dki dag dco dpa dme dso drs dwa dbe dpr nt nm (nI bo) (nI cr) (nI de) ns np tnt tnm tnb tnc tnd tns tnp pf ph pst kh kst os og oh cs mo le se pk pc lf ab cu cd) [.ref 74, .int (nI p)] (gEq (hC tl tn rn rp ki ag co pa me (nI sd) (nI sz) wa be pr dki dag dco dpa dme dso drs dwa dbe dpr nt nm (nI bo) (nI cr) (nI de) ns np tnt tnm tnb tnc tnd tns tnp pf ph pst kh kst os og oh ((rX4_manyWith ki ag co me wa be pr nt nm cs p sz cr de sd).2) mo le se pk pc lf ab cu cd) (some (.int ((rX4_manyWith ki ag co me wa be pr nt nm cs p sz cr de sd).1)))) := by
  refine M.of (L0 := [.ref 74, .int (nI p), gF, gF]) (by decide +kernel) (Nat.le_of_ble_eq_true rfl) rfl ?_
  refine g_aload_n dX4_manyWith_0 rfl 1 rfl rfl ?_
  refine g_aload_n dX4_manyWith_1 rfl 2 rfl rfl ?_
  refine g_get (v := .ref 29) dX4_manyWith_2 5 rfl lX4_33 rfl rfl ?_
  refine g_cVv (as := []) (st := [.ref 74]) dX4_manyWith_5 8 rfl kX4_51 ⟨Nat.le_of_ble_eq_true rfl, Nat.le_of_ble_eq_true rfl⟩ (MX6_present_29' (sz := sz) (bo := bo) (cr := cr) (de := de) (sd := sd) (by omega)) rfl rfl rfl rfl (Nat.le_of_ble_eq_true rfl) (Nat.le_refl _) (Nat.le_refl _) ?_
  refine g_cV0 (as := [.int (nI (presN co nm sz cr de))]) (st := []) dX4_manyWith_8 11 rfl kX4_55 ⟨Nat.le_of_ble_eq_true rfl, Nat.le_of_ble_eq_true rfl⟩ (MX4_costAll (sz := sz) (bo := bo) (cr := cr) (de := de) (sd := sd) (presN co nm sz cr de) (by omega) (by omega)) rfl rfl rfl rfl (Nat.le_of_ble_eq_true rfl) (Nat.le_refl _) (Nat.le_refl _) ?_
  refine g_iconst 0 dX4_manyWith_11 12 rfl (by decide) ?_
  refine g_istore2 dX4_manyWith_12 13 rfl (by decide) rfl ?_
  refine g_iconst 1 dX4_manyWith_13 14 rfl (by decide) ?_
  refine g_istore3 dX4_manyWith_14 15 rfl (by decide) rfl ?_
  refine LX4_manyWith_15 (p := p) (by omega) (by omega) (by omega) (512 - 1) 1 0 (by omega) ?_
  refine g_iload_n dX4_manyWith_52 rfl 53 rfl rfl ?_
  refine g_ireturn dX4_manyWith_53 rfl rfl (Nat.le_refl _) (Nat.le_refl _) ?_
  have e : (rX4_manyWith ki ag co me wa be pr nt nm cs p sz cr de sd) = ((nI (gLp (fX4_manyWith_15 (rX4_costAll ki ag me wa be pr nt cs (presN co nm sz cr de) sz cr de sd) p) (512 - 1) 1 0)), (rX4_costAll ki ag me wa be pr nt cs (presN co nm sz cr de) sz cr de sd)) := by rw [rX4_manyWith]
  rw [e]
  try dsimp only
  exact ⟨rfl, rfl⟩
def fX4_inNone_15 (cs : Int32 → Int32) : Nat → (Nat) → (Nat)
  | i, u0 => (if (cs (nI i)) = (-4) then u0 else (andN u0 i))
set_option maxRecDepth 100000 in
set_option maxHeartbeats 4000000 in
theorem LX4_inNone_15 {w : gW} {al : Bool} {tl rn ki ag co pa me dki dag dco dpa dme nt tnt os og cs mo le se ab : Int32 → Int32} {tn rp wa be pr dso drs dwa dbe dpr nm ns np tnm tnb tnc tnd tns tnp ph kh oh pk pc lf cu cd : Int32} {pf : Nat → Option Nat} {pst kst : Nat → gS} {n : Nat} {P : gP} {sz bo cr de sd : Nat} (hs : sz ≤ 9) (hsd : sd < 512)  : ∀ (d i : Nat) (u0 : Nat), i + d = 512 → G w gT0 al n mX4_inNone 0 0 P 0 0 (hC tl tn rn rp ki ag co pa me (nI sd) (nI sz) wa be pr dki dag dco dpa dme dso drs dwa dbe dpr nt nm (nI bo) (nI cr) (nI de) ns np tnt tnm tnb tnc tnd tns tnp pf ph pst kh kst os og oh cs mo le se pk pc lf ab cu cd) 47 [.ref 74, .int (nI (gLp (fX4_inNone_15 cs) d i u0)), .int (nI 512)] [] → G w gT0 al n mX4_inNone 0 0 P 0 0 (hC tl tn rn rp ki ag co pa me (nI sd) (nI sz) wa be pr dki dag dco dpa dme dso drs dwa dbe dpr nt nm (nI bo) (nI cr) (nI de) ns np tnt tnm tnb tnc tnd tns tnp pf ph pst kh kst os og oh cs mo le se pk pc lf ab cu cd) 15 [.ref 74, .int (nI u0), .int (nI i)] [] := by
  intro d
  induction d with
  | zero =>
    intro i u0 hi k
    have hN : i = 512 := by omega
    rw [hN]
    rw [hN] at k
    refine g_iload_n dX4_inNone_15 rfl 16 rfl rfl ?_
    refine g_sipush 512 dX4_inNone_16 19 rfl (by decide) ?_
    refine g_icmp_ge dX4_inNone_19 47 rfl 22 rfl (fun _ => ?_) (fun c => absurd (nI_le (a := 512) (b := 512) (by omega) (by omega)) c)
    exact k
  | succ d ih =>
    intro i u0 hi k
    refine g_iload_n dX4_inNone_15 rfl 16 rfl rfl ?_
    refine g_sipush 512 dX4_inNone_16 19 rfl (by decide) ?_
    refine g_icmp_ge dX4_inNone_19 47 rfl 22 rfl (fun c => absurd c (nI_ge (a := i) (b := 512) (by omega) (by omega))) (fun _ => ?_)
    refine g_aload_n dX4_inNone_22 rfl 23 rfl rfl ?_
    refine g_get (v := .ref 75) dX4_inNone_23 26 rfl lX4_14 rfl rfl ?_
    refine g_iload_n dX4_inNone_26 rfl 27 rfl rfl ?_
    refine g_cVv (as := [.int (nI i)]) (st := []) dX4_inNone_27 30 rfl kX4_58 ⟨Nat.le_of_ble_eq_true rfl, Nat.le_of_ble_eq_true rfl⟩ (MX3_atN (k := 75) (j := 76) (N := 512) (f := cs) rfl rfl (by decide) i (by omega)) rfl rfl rfl rfl (Nat.le_of_ble_eq_true rfl) (Nat.le_refl _) (Nat.le_refl _) ?_
    refine g_bipush (-4) dX4_inNone_30 32 rfl (by decide) ?_
    refine g_icmp_eq dX4_inNone_32 41 rfl 35 rfl (fun c1 => ?_) (fun c1 => ?_)
    · refine g_iinc2 dX4_inNone_41 44 rfl 1 (by decide) (nI (i + 1)) (nI_add _ 1) (by decide) rfl ?_
      refine g_goto dX4_inNone_44 15 rfl ?_
      have e : (fX4_inNone_15 cs) i u0 = u0 := by rw [fX4_inNone_15, if_pos c1]
      refine ih (i + 1) u0 (by omega) ?_
      rw [← e]
      exact k
    · refine g_iload_n dX4_inNone_35 rfl 36 rfl rfl ?_
      refine g_iload_n dX4_inNone_36 rfl 37 rfl rfl ?_
      refine g_iconst (-1) dX4_inNone_37 38 rfl (by decide) ?_
      refine g_ixor dX4_inNone_38 39 rfl ?_
      refine g_iand' dX4_inNone_39 40 rfl (nI (andN u0 i)) (z_andN _ _) ?_
      refine g_istore1 dX4_inNone_40 41 rfl (by decide) rfl ?_
      refine g_iinc2 dX4_inNone_41 44 rfl 1 (by decide) (nI (i + 1)) (nI_add _ 1) (by decide) rfl ?_
      refine g_goto dX4_inNone_44 15 rfl ?_
      have e : (fX4_inNone_15 cs) i u0 = (andN u0 i) := by rw [fX4_inNone_15, if_neg c1]
      refine ih (i + 1) (andN u0 i) (by omega) ?_
      rw [← e]
      exact k
def rX4_inNone (ki : Int32 → Int32) (ag : Int32 → Int32) (co : Int32 → Int32) (me : Int32 → Int32) (wa : Int32) (be : Int32) (pr : Int32) (nt : Int32 → Int32) (nm : Int32) (cs : Int32 → Int32) (sz : Nat) (cr : Nat) (de : Nat) (sd : Nat) : Int32 × (Int32 → Int32) := ((nI (gLp (fX4_inNone_15 (rX4_costAll ki ag me wa be pr nt cs (presN co nm sz cr de) sz cr de sd)) (512 - 1) 1 (presN co nm sz cr de))), (rX4_costAll ki ag me wa be pr nt cs (presN co nm sz cr de) sz cr de sd))
set_option maxRecDepth 100000 in
set_option maxHeartbeats 4000000 in
theorem MX4_inNone {w : gW} {al : Bool} {tl rn ki ag co pa me dki dag dco dpa dme nt tnt os og cs mo le se ab : Int32 → Int32} {tn rp wa be pr dso drs dwa dbe dpr nm ns np tnm tnb tnc tnd tns tnp ph kh oh pk pc lf cu cd : Int32} {pf : Nat → Option Nat} {pst kst : Nat → gS} {sz bo cr de sd : Nat} (hs : sz ≤ 9) (hsd : sd < 512)  : M w gT0 al mX4_inNone 0 0 (hC tl tn rn rp ki ag co pa me (nI sd) (nI sz) wa be pr dki dag dco dpa dme dso drs dwa dbe dpr nt nm (nI bo) (nI cr) (nI de) ns np tnt tnm tnb tnc tnd tns tnp pf ph pst kh kst os og oh cs mo le se pk pc lf ab cu cd) [.ref 74] (gEq (hC tl tn rn rp ki ag co pa me (nI sd) (nI sz) wa be pr dki dag dco dpa dme dso drs dwa dbe dpr nt nm (nI bo) (nI cr) (nI de) ns np tnt tnm tnb tnc tnd tns tnp pf ph pst kh kst os og oh ((rX4_inNone ki ag co me wa be pr nt nm cs sz cr de sd).2) mo le se pk pc lf ab cu cd) (some (.int ((rX4_inNone ki ag co me wa be pr nt nm cs sz cr de sd).1)))) := by
  refine M.of (L0 := [.ref 74, gF, gF]) (by decide +kernel) (Nat.le_of_ble_eq_true rfl) rfl ?_
  refine g_aload_n dX4_inNone_0 rfl 1 rfl rfl ?_
  refine g_get (v := .ref 29) dX4_inNone_1 4 rfl lX4_33 rfl rfl ?_
  refine g_cVv (as := []) (st := []) dX4_inNone_4 7 rfl kX4_51 ⟨Nat.le_of_ble_eq_true rfl, Nat.le_of_ble_eq_true rfl⟩ (MX6_present_29' (sz := sz) (bo := bo) (cr := cr) (de := de) (sd := sd) (by omega)) rfl rfl rfl rfl (Nat.le_of_ble_eq_true rfl) (Nat.le_refl _) (Nat.le_refl _) ?_
  refine g_istore1 dX4_inNone_7 8 rfl (by decide) rfl ?_
  refine g_aload_n dX4_inNone_8 rfl 9 rfl rfl ?_
  refine g_iload_n dX4_inNone_9 rfl 10 rfl rfl ?_
  refine g_cV0 (as := [.int (nI (presN co nm sz cr de))]) (st := []) dX4_inNone_10 13 rfl kX4_55 ⟨Nat.le_of_ble_eq_true rfl, Nat.le_of_ble_eq_true rfl⟩ (MX4_costAll (sz := sz) (bo := bo) (cr := cr) (de := de) (sd := sd) (presN co nm sz cr de) (by omega) (by omega)) rfl rfl rfl rfl (Nat.le_of_ble_eq_true rfl) (Nat.le_refl _) (Nat.le_refl _) ?_
  refine g_iconst 1 dX4_inNone_13 14 rfl (by decide) ?_
  refine g_istore2 dX4_inNone_14 15 rfl (by decide) rfl ?_
  refine LX4_inNone_15  (by omega) (by omega) (512 - 1) 1 (presN co nm sz cr de) (by omega) ?_
  refine g_iload_n dX4_inNone_47 rfl 48 rfl rfl ?_
  refine g_ireturn dX4_inNone_48 rfl rfl (Nat.le_refl _) (Nat.le_refl _) ?_
  have e : (rX4_inNone ki ag co me wa be pr nt nm cs sz cr de sd) = ((nI (gLp (fX4_inNone_15 (rX4_costAll ki ag me wa be pr nt cs (presN co nm sz cr de) sz cr de sd)) (512 - 1) 1 (presN co nm sz cr de))), (rX4_costAll ki ag me wa be pr nt cs (presN co nm sz cr de) sz cr de sd)) := by rw [rX4_inNone]
  rw [e]
  try dsimp only
  exact ⟨rfl, rfl⟩
