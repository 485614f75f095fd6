/-! the class: Roll -/
def rX2_setFerry_7 (wa : Int32) (be : Int32) (pr : Int32) (te : Int32) (mr : Int32) (ci : Int32) : Bool × Int32 × Int32 × Int32 := (if te < 1 then (false, wa, be, pr) else (if ci ≤ 9 then (true, (10 * te), mr, ci) else (false, wa, be, pr)))
set_option maxRecDepth 100000 in
set_option maxHeartbeats 4000000 in
theorem MX2_setFerry_7 {w : gW} {al : Bool} {tl rn ki ag co pa me dki dag dco dpa dme nt tnt os og cs mo le se ab : Int32 → Int32} {tn rp so rs wa be pr dso drs dwa dbe dpr nm nb nc nd ns np tnm tnb tnc tnd tns tnp ph kh oh pk pc lf cu cd : Int32} {pf : Nat → Option Nat} {pst kst : Nat → gS}  (te : Int32) (mr : Int32) (ci : Int32)  : M w gT0 al mX2_setFerry 0 0 (hC tl tn rn rp ki ag co pa me so rs wa be pr dki dag dco dpa dme dso drs dwa dbe dpr nt nm nb nc nd ns np tnt tnm tnb tnc tnd tns tnp pf ph pst kh kst os og oh cs mo le se pk pc lf ab cu cd) [.ref 7, .int te, .int mr, .int ci] (gEq (hC tl tn rn rp ki ag co pa me so rs ((rX2_setFerry_7 wa be pr te mr ci).2.1) ((rX2_setFerry_7 wa be pr te mr ci).2.2.1) ((rX2_setFerry_7 wa be pr te mr ci).2.2.2) dki dag dco dpa dme dso drs dwa dbe dpr nt nm nb nc nd ns np tnt tnm tnb tnc tnd tns tnp pf ph pst kh kst os og oh cs mo le se pk pc lf ab cu cd) (some (.int (gB (rX2_setFerry_7 wa be pr te mr ci).1)))) := by
  refine M.of (L0 := [.ref 7, .int te, .int mr, .int ci]) (by decide +kernel) (Nat.le_of_ble_eq_true rfl) rfl ?_
  refine g_iload_n dX2_setFerry_0 rfl 1 rfl rfl ?_
  refine g_iconst 1 dX2_setFerry_1 2 rfl (by decide) ?_
  refine g_icmp_lt dX2_setFerry_2 11 rfl 5 rfl (fun c1 => ?_) (fun c1 => ?_)
  · refine g_iconst 0 dX2_setFerry_11 12 rfl (by decide) ?_
    refine g_ireturn dX2_setFerry_12 rfl rfl (Nat.le_refl _) (Nat.le_refl _) ?_
    have e : (rX2_setFerry_7 wa be pr te mr ci) = (false, wa, be, pr) := by rw [rX2_setFerry_7, if_pos c1]
    rw [e]
    exact ⟨rfl, rfl⟩
  · refine g_iload_n dX2_setFerry_5 rfl 6 rfl rfl ?_
    refine g_bipush 9 dX2_setFerry_6 8 rfl (by decide) ?_
    refine g_icmp_le dX2_setFerry_8 13 rfl 11 rfl (fun c2 => ?_) (fun c2 => ?_)
    · refine g_aload_n dX2_setFerry_13 rfl 14 rfl rfl ?_
      refine g_bipush 10 dX2_setFerry_14 16 rfl (by decide) ?_
      refine g_iload_n dX2_setFerry_16 rfl 17 rfl rfl ?_
      refine g_imul dX2_setFerry_17 18 rfl ?_
      refine g_put dX2_setFerry_18 21 rfl lX2_46 wrX2 rfl rfl rfl rfl rfl (Nat.le_of_ble_eq_true rfl) (h' := (hC tl tn rn rp ki ag co pa me so rs (10 * te) be pr dki dag dco dpa dme dso drs dwa dbe dpr nt nm nb nc nd ns np tnt tnm tnb tnc tnd tns tnp pf ph pst kh kst os og oh cs mo le se pk pc lf ab cu cd)) rfl ?_
      refine g_aload_n dX2_setFerry_21 rfl 22 rfl rfl ?_
      refine g_iload_n dX2_setFerry_22 rfl 23 rfl rfl ?_
      refine g_put dX2_setFerry_23 26 rfl lX2_49 wrX2 rfl rfl rfl rfl rfl (Nat.le_of_ble_eq_true rfl) (h' := (hC tl tn rn rp ki ag co pa me so rs (10 * te) mr pr dki dag dco dpa dme dso drs dwa dbe dpr nt nm nb nc nd ns np tnt tnm tnb tnc tnd tns tnp pf ph pst kh kst os og oh cs mo le se pk pc lf ab cu cd)) rfl ?_
      refine g_aload_n dX2_setFerry_26 rfl 27 rfl rfl ?_
      refine g_iload_n dX2_setFerry_27 rfl 28 rfl rfl ?_
      refine g_put dX2_setFerry_28 31 rfl lX2_52 wrX2 rfl rfl rfl rfl rfl (Nat.le_of_ble_eq_true rfl) (h' := (hC tl tn rn rp ki ag co pa me so rs (10 * te) mr ci dki dag dco dpa dme dso drs dwa dbe dpr nt nm nb nc nd ns np tnt tnm tnb tnc tnd tns tnp pf ph pst kh kst os og oh cs mo le se pk pc lf ab cu cd)) rfl ?_
      refine g_iconst 1 dX2_setFerry_31 32 rfl (by decide) ?_
      refine g_ireturn dX2_setFerry_32 rfl rfl (Nat.le_refl _) (Nat.le_refl _) ?_
      have e : (rX2_setFerry_7 wa be pr te mr ci) = (true, (10 * te), mr, ci) := by rw [rX2_setFerry_7, if_neg c1, if_pos c2]
      rw [e]
      exact ⟨rfl, rfl⟩
    · refine g_iconst 0 dX2_setFerry_11 12 rfl (by decide) ?_
      refine g_ireturn dX2_setFerry_12 rfl rfl (Nat.le_refl _) (Nat.le_refl _) ?_
      have e : (rX2_setFerry_7 wa be pr te mr ci) = (false, wa, be, pr) := by rw [rX2_setFerry_7, if_neg c1, if_neg c2]
      rw [e]
      exact ⟨rfl, rfl⟩
set_option maxRecDepth 100000 in
set_option maxHeartbeats 4000000 in
theorem MX2_setFerry_18 {w : gW} {al : Bool} {tl rn ki ag co pa me dki dag dco dpa dme nt tnt os og cs mo le se ab : Int32 → Int32} {tn rp so rs wa be pr dso drs dwa dbe dpr nm nb nc nd ns np tnm tnb tnc tnd tns tnp ph kh oh pk pc lf cu cd : Int32} {pf : Nat → Option Nat} {pst kst : Nat → gS}  (te : Int32) (mr : Int32) (ci : Int32)  : M w gT0 al mX2_setFerry 0 0 (hC tl tn rn rp ki ag co pa me so rs wa be pr dki dag dco dpa dme dso drs dwa dbe dpr nt nm nb nc nd ns np tnt tnm tnb tnc tnd tns tnp pf ph pst kh kst os og oh cs mo le se pk pc lf ab cu cd) [.ref 18, .int te, .int mr, .int ci] (gEq (hC tl tn rn rp ki ag co pa me so rs wa be pr dki dag dco dpa dme dso drs ((rX2_setFerry_7 dwa dbe dpr te mr ci).2.1) ((rX2_setFerry_7 dwa dbe dpr te mr ci).2.2.1) ((rX2_setFerry_7 dwa dbe dpr te mr ci).2.2.2) nt nm nb nc nd ns np tnt tnm tnb tnc tnd tns tnp pf ph pst kh kst os og oh cs mo le se pk pc lf ab cu cd) (some (.int (gB (rX2_setFerry_7 dwa dbe dpr te mr ci).1)))) := by
  refine M.of (L0 := [.ref 18, .int te, .int mr, .int ci]) (by decide +kernel) (Nat.le_of_ble_eq_true rfl) rfl ?_
  refine g_iload_n dX2_setFerry_0 rfl 1 rfl rfl ?_
  refine g_iconst 1 dX2_setFerry_1 2 rfl (by decide) ?_
  refine g_icmp_lt dX2_setFerry_2 11 rfl 5 rfl (fun c1 => ?_) (fun c1 => ?_)
  · refine g_iconst 0 dX2_setFerry_11 12 rfl (by decide) ?_
    refine g_ireturn dX2_setFerry_12 rfl rfl (Nat.le_refl _) (Nat.le_refl _) ?_
    have e : (rX2_setFerry_7 dwa dbe dpr te mr ci) = (false, dwa, dbe, dpr) := by rw [rX2_setFerry_7, if_pos c1]
    rw [e]
    exact ⟨rfl, rfl⟩
  · refine g_iload_n dX2_setFerry_5 rfl 6 rfl rfl ?_
    refine g_bipush 9 dX2_setFerry_6 8 rfl (by decide) ?_
    refine g_icmp_le dX2_setFerry_8 13 rfl 11 rfl (fun c2 => ?_) (fun c2 => ?_)
    · refine g_aload_n dX2_setFerry_13 rfl 14 rfl rfl ?_
      refine g_bipush 10 dX2_setFerry_14 16 rfl (by decide) ?_
      refine g_iload_n dX2_setFerry_16 rfl 17 rfl rfl ?_
      refine g_imul dX2_setFerry_17 18 rfl ?_
      refine g_put dX2_setFerry_18 21 rfl lX2_46 wrX2 rfl rfl rfl rfl rfl (Nat.le_of_ble_eq_true rfl) (h' := (hC tl tn rn rp ki ag co pa me so rs wa be pr dki dag dco dpa dme dso drs (10 * te) dbe dpr nt nm nb nc nd ns np tnt tnm tnb tnc tnd tns tnp pf ph pst kh kst os og oh cs mo le se pk pc lf ab cu cd)) rfl ?_
      refine g_aload_n dX2_setFerry_21 rfl 22 rfl rfl ?_
      refine g_iload_n dX2_setFerry_22 rfl 23 rfl rfl ?_
      refine g_put dX2_setFerry_23 26 rfl lX2_49 wrX2 rfl rfl rfl rfl rfl (Nat.le_of_ble_eq_true rfl) (h' := (hC tl tn rn rp ki ag co pa me so rs wa be pr dki dag dco dpa dme dso drs (10 * te) mr dpr nt nm nb nc nd ns np tnt tnm tnb tnc tnd tns tnp pf ph pst kh kst os og oh cs mo le se pk pc lf ab cu cd)) rfl ?_
      refine g_aload_n dX2_setFerry_26 rfl 27 rfl rfl ?_
      refine g_iload_n dX2_setFerry_27 rfl 28 rfl rfl ?_
      refine g_put dX2_setFerry_28 31 rfl lX2_52 wrX2 rfl rfl rfl rfl rfl (Nat.le_of_ble_eq_true rfl) (h' := (hC tl tn rn rp ki ag co pa me so rs wa be pr dki dag dco dpa dme dso drs (10 * te) mr ci nt nm nb nc nd ns np tnt tnm tnb tnc tnd tns tnp pf ph pst kh kst os og oh cs mo le se pk pc lf ab cu cd)) rfl ?_
      refine g_iconst 1 dX2_setFerry_31 32 rfl (by decide) ?_
      refine g_ireturn dX2_setFerry_32 rfl rfl (Nat.le_refl _) (Nat.le_refl _) ?_
      have e : (rX2_setFerry_7 dwa dbe dpr te mr ci) = (true, (10 * te), mr, ci) := by rw [rX2_setFerry_7, if_neg c1, if_pos c2]
      rw [e]
      exact ⟨rfl, rfl⟩
    · refine g_iconst 0 dX2_setFerry_11 12 rfl (by decide) ?_
      refine g_ireturn dX2_setFerry_12 rfl rfl (Nat.le_refl _) (Nat.le_refl _) ?_
      have e : (rX2_setFerry_7 dwa dbe dpr te mr ci) = (false, dwa, dbe, dpr) := by rw [rX2_setFerry_7, if_neg c1, if_neg c2]
      rw [e]
      exact ⟨rfl, rfl⟩
def rX2_clear_7 (me : Int32 → Int32) (wa : Int32) (be : Int32) (pr : Int32) : (Int32 → Int32) × Int32 × Int32 × Int32 × Int32 × Int32 := ((rFill 0 6 0 me), 0, 0, ((rX2_setFerry_7 wa be pr 10 9 1).2.1), ((rX2_setFerry_7 wa be pr 10 9 1).2.2.1), ((rX2_setFerry_7 wa be pr 10 9 1).2.2.2))
set_option maxRecDepth 100000 in
set_option maxHeartbeats 4000000 in
theorem MX2_clear_7 {w : gW} {al : Bool} {tl rn ki ag co pa me dki dag dco dpa dme nt tnt os og cs mo le se ab : Int32 → Int32} {tn rp so rs wa be pr dso drs dwa dbe dpr nm nb nc nd ns np tnm tnb tnc tnd tns tnp ph kh oh pk pc lf cu cd : Int32} {pf : Nat → Option Nat} {pst kst : Nat → gS}   : M w gT0 al mX2_clear 0 0 (hC tl tn rn rp ki ag co pa me so rs wa be pr dki dag dco dpa dme dso drs dwa dbe dpr nt nm nb nc nd ns np tnt tnm tnb tnc tnd tns tnp pf ph pst kh kst os og oh cs mo le se pk pc lf ab cu cd) [.ref 7] (gEq (hC tl tn rn rp ki ag co pa ((rX2_clear_7 me wa be pr).1) ((rX2_clear_7 me wa be pr).2.1) ((rX2_clear_7 me wa be pr).2.2.1) ((rX2_clear_7 me wa be pr).2.2.2.1) ((rX2_clear_7 me wa be pr).2.2.2.2.1) ((rX2_clear_7 me wa be pr).2.2.2.2.2) dki dag dco dpa dme dso drs dwa dbe dpr nt nm nb nc nd ns np tnt tnm tnb tnc tnd tns tnp pf ph pst kh kst os og oh cs mo le se pk pc lf ab cu cd) none) := by
  refine M.of (L0 := [.ref 7]) (by decide +kernel) (Nat.le_of_ble_eq_true rfl) rfl ?_
  refine g_aload_n dX2_clear_0 rfl 1 rfl rfl ?_
  refine g_get (v := .ref 16) dX2_clear_1 4 rfl lX2_29 rfl rfl ?_
  refine g_iconst 0 dX2_clear_4 5 rfl (by decide) ?_
  refine g_cV0 (as := [.int 0]) (st := []) dX2_clear_5 8 rfl kX2_32 ⟨Nat.le_of_ble_eq_true rfl, Nat.le_of_ble_eq_true rfl⟩ (MX3_fill (k := 16) (j := 17) (N := 6) (f := me) rfl rfl (by decide) (by decide) 0 (h' := (hC tl tn rn rp ki ag co pa (rFill 0 6 0 me) so rs wa be pr dki dag dco dpa dme dso drs dwa dbe dpr nt nm nb nc nd ns np tnt tnm tnb tnc tnd tns tnp pf ph pst kh kst os og oh cs mo le se pk pc lf ab cu cd)) rfl) rfl rfl rfl rfl (Nat.le_of_ble_eq_true rfl) (Nat.le_refl _) (Nat.le_refl _) ?_
  refine g_aload_n dX2_clear_8 rfl 9 rfl rfl ?_
  refine g_iconst 0 dX2_clear_9 10 rfl (by decide) ?_
  refine g_put dX2_clear_10 13 rfl lX2_35 wrX2 rfl rfl rfl rfl rfl (Nat.le_of_ble_eq_true rfl) (h' := (hC tl tn rn rp ki ag co pa (rFill 0 6 0 me) 0 rs wa be pr dki dag dco dpa dme dso drs dwa dbe dpr nt nm nb nc nd ns np tnt tnm tnb tnc tnd tns tnp pf ph pst kh kst os og oh cs mo le se pk pc lf ab cu cd)) rfl ?_
  refine g_aload_n dX2_clear_13 rfl 14 rfl rfl ?_
  refine g_iconst 0 dX2_clear_14 15 rfl (by decide) ?_
  refine g_put dX2_clear_15 18 rfl lX2_39 wrX2 rfl rfl rfl rfl rfl (Nat.le_of_ble_eq_true rfl) (h' := (hC tl tn rn rp ki ag co pa (rFill 0 6 0 me) 0 0 wa be pr dki dag dco dpa dme dso drs dwa dbe dpr nt nm nb nc nd ns np tnt tnm tnb tnc tnd tns tnp pf ph pst kh kst os og oh cs mo le se pk pc lf ab cu cd)) rfl ?_
  refine g_aload_n dX2_clear_18 rfl 19 rfl rfl ?_
  refine g_bipush 10 dX2_clear_19 21 rfl (by decide) ?_
  refine g_bipush 9 dX2_clear_21 23 rfl (by decide) ?_
  refine g_iconst 1 dX2_clear_23 24 rfl (by decide) ?_
  refine g_cVv (as := [.int 10, .int 9, .int 1]) (st := []) dX2_clear_24 27 rfl kX2_42 ⟨Nat.le_of_ble_eq_true rfl, Nat.le_of_ble_eq_true rfl⟩ (MX2_setFerry_7 10 9 1) rfl rfl rfl rfl (Nat.le_of_ble_eq_true rfl) (Nat.le_refl _) (Nat.le_refl _) ?_
  refine g_pop dX2_clear_27 28 rfl rfl ?_
  refine g_return dX2_clear_28 rfl (Nat.le_refl _) (Nat.le_refl _) ?_
  have e : (rX2_clear_7 me wa be pr) = ((rFill 0 6 0 me), 0, 0, ((rX2_setFerry_7 wa be pr 10 9 1).2.1), ((rX2_setFerry_7 wa be pr 10 9 1).2.2.1), ((rX2_setFerry_7 wa be pr 10 9 1).2.2.2)) := by rw [rX2_clear_7]
  rw [e]
  exact ⟨rfl, rfl⟩
set_option maxRecDepth 100000 in
set_option maxHeartbeats 4000000 in
theorem MX2_clear_18 {w : gW} {al : Bool} {tl rn ki ag co pa me dki dag dco dpa dme nt tnt os og cs mo le se ab : Int32 → Int32} {tn rp so rs wa be pr dso drs dwa dbe dpr nm nb nc nd ns np tnm tnb tnc tnd tns tnp ph kh oh pk pc lf cu cd : Int32} {pf : Nat → Option Nat} {pst kst : Nat → gS}   : M w gT0 al mX2_clear 0 0 (hC tl tn rn rp ki ag co pa me so rs wa be pr dki dag dco dpa dme dso drs dwa dbe dpr nt nm nb nc nd ns np tnt tnm tnb tnc tnd tns tnp pf ph pst kh kst os og oh cs mo le se pk pc lf ab cu cd) [.ref 18] (gEq (hC tl tn rn rp ki ag co pa me so rs wa be pr dki dag dco dpa ((rX2_clear_7 dme dwa dbe dpr).1) ((rX2_clear_7 dme dwa dbe dpr).2.1) ((rX2_clear_7 dme dwa dbe dpr).2.2.1) ((rX2_clear_7 dme dwa dbe dpr).2.2.2.1) ((rX2_clear_7 dme dwa dbe dpr).2.2.2.2.1) ((rX2_clear_7 dme dwa dbe dpr).2.2.2.2.2) nt nm nb nc nd ns np tnt tnm tnb tnc tnd tns tnp pf ph pst kh kst os og oh cs mo le se pk pc lf ab cu cd) none) := by
  refine M.of (L0 := [.ref 18]) (by decide +kernel) (Nat.le_of_ble_eq_true rfl) rfl ?_
  refine g_aload_n dX2_clear_0 rfl 1 rfl rfl ?_
  refine g_get (v := .ref 27) dX2_clear_1 4 rfl lX2_29 rfl rfl ?_
  refine g_iconst 0 dX2_clear_4 5 rfl (by decide) ?_
  refine g_cV0 (as := [.int 0]) (st := []) dX2_clear_5 8 rfl kX2_32 ⟨Nat.le_of_ble_eq_true rfl, Nat.le_of_ble_eq_true rfl⟩ (MX3_fill (k := 27) (j := 28) (N := 6) (f := dme) rfl rfl (by decide) (by decide) 0 (h' := (hC tl tn rn rp ki ag co pa me so rs wa be pr dki dag dco dpa (rFill 0 6 0 dme) dso drs dwa dbe dpr nt nm nb nc nd ns np tnt tnm tnb tnc tnd tns tnp pf ph pst kh kst os og oh cs mo le se pk pc lf ab cu cd)) rfl) rfl rfl rfl rfl (Nat.le_of_ble_eq_true rfl) (Nat.le_refl _) (Nat.le_refl _) ?_
  refine g_aload_n dX2_clear_8 rfl 9 rfl rfl ?_
  refine g_iconst 0 dX2_clear_9 10 rfl (by decide) ?_
  refine g_put dX2_clear_10 13 rfl lX2_35 wrX2 rfl rfl rfl rfl rfl (Nat.le_of_ble_eq_true rfl) (h' := (hC tl tn rn rp ki ag co pa me so rs wa be pr dki dag dco dpa (rFill 0 6 0 dme) 0 drs dwa dbe dpr nt nm nb nc nd ns np tnt tnm tnb tnc tnd tns tnp pf ph pst kh kst os og oh cs mo le se pk pc lf ab cu cd)) rfl ?_
  refine g_aload_n dX2_clear_13 rfl 14 rfl rfl ?_
  refine g_iconst 0 dX2_clear_14 15 rfl (by decide) ?_
  refine g_put dX2_clear_15 18 rfl lX2_39 wrX2 rfl rfl rfl rfl rfl (Nat.le_of_ble_eq_true rfl) (h' := (hC tl tn rn rp ki ag co pa me so rs wa be pr dki dag dco dpa (rFill 0 6 0 dme) 0 0 dwa dbe dpr nt nm nb nc nd ns np tnt tnm tnb tnc tnd tns tnp pf ph pst kh kst os og oh cs mo le se pk pc lf ab cu cd)) rfl ?_
  refine g_aload_n dX2_clear_18 rfl 19 rfl rfl ?_
  refine g_bipush 10 dX2_clear_19 21 rfl (by decide) ?_
  refine g_bipush 9 dX2_clear_21 23 rfl (by decide) ?_
  refine g_iconst 1 dX2_clear_23 24 rfl (by decide) ?_
  refine g_cVv (as := [.int 10, .int 9, .int 1]) (st := []) dX2_clear_24 27 rfl kX2_42 ⟨Nat.le_of_ble_eq_true rfl, Nat.le_of_ble_eq_true rfl⟩ (MX2_setFerry_18 10 9 1) rfl rfl rfl rfl (Nat.le_of_ble_eq_true rfl) (Nat.le_refl _) (Nat.le_refl _) ?_
  refine g_pop dX2_clear_27 28 rfl rfl ?_
  refine g_return dX2_clear_28 rfl (Nat.le_refl _) (Nat.le_refl _) ?_
  have e : (rX2_clear_7 dme dwa dbe dpr) = ((rFill 0 6 0 dme), 0, 0, ((rX2_setFerry_7 dwa dbe dpr 10 9 1).2.1), ((rX2_setFerry_7 dwa dbe dpr 10 9 1).2.2.1), ((rX2_setFerry_7 dwa dbe dpr 10 9 1).2.2.2)) := by rw [rX2_clear_7]
  rw [e]
  exact ⟨rfl, rfl⟩
def rX2_addPerson_7 (ki : Int32 → Int32) (ag : Int32 → Int32) (co : Int32 → Int32) (pa : Int32 → Int32) (me : Int32 → Int32) (so : Int32) (kd : Int32) (yr : Int32) (mn : Int32) (pt : Int32) (sz : Nat) : Bool × (Int32 → Int32) × (Int32 → Int32) × (Int32 → Int32) × (Int32 → Int32) × (Int32 → Int32) × Int32 × Nat := (if 9 ≤ (nI sz) then (false, ki, ag, co, pa, me, so, sz) else (if 3 < kd then (false, ki, ag, co, pa, me, so, sz) else (if pt ≤ 5 then (if kd = 3 then (true, (gup ki (nI sz) kd), (gup ag (nI sz) yr), (gup co (nI sz) mn), (gup pa (nI sz) pt), (rPut 6 me pt ((rAt 6 me pt) ||| (nI (2 ^ sz)))), (so ||| (nI (2 ^ sz))), sz + 1) else (true, (gup ki (nI sz) kd), (gup ag (nI sz) yr), (gup co (nI sz) mn), (gup pa (nI sz) pt), (rPut 6 me pt ((rAt 6 me pt) ||| (nI (2 ^ sz)))), so, sz + 1)) else (false, ki, ag, co, pa, me, so, sz))))
set_option maxRecDepth 100000 in
set_option maxHeartbeats 4000000 in
theorem MX2_addPerson_7 {w : gW} {al : Bool} {tl rn ki ag co pa me dki dag dco dpa dme nt tnt os og cs mo le se ab : Int32 → Int32} {tn rp so wa be pr dso drs dwa dbe dpr nm nb nc nd ns np tnm tnb tnc tnd tns tnp ph kh oh pk pc lf cu cd : Int32} {pf : Nat → Option Nat} {pst kst : Nat → gS} {sz : Nat} (kd : Int32) (yr : Int32) (mn : Int32) (pt : Int32) (hs : sz ≤ 9)  : M w gT0 al mX2_addPerson 0 0 (hC tl tn rn rp ki ag co pa me so (nI sz) wa be pr dki dag dco dpa dme dso drs dwa dbe dpr nt nm nb nc nd ns np tnt tnm tnb tnc tnd tns tnp pf ph pst kh kst os og oh cs mo le se pk pc lf ab cu cd) [.ref 7, .int kd, .int yr, .int mn, .int pt] (gEq (hC tl tn rn rp ((rX2_addPerson_7 ki ag co pa me so kd yr mn pt sz).2.1) ((rX2_addPerson_7 ki ag co pa me so kd yr mn pt sz).2.2.1) ((rX2_addPerson_7 ki ag co pa me so kd yr mn pt sz).2.2.2.1) ((rX2_addPerson_7 ki ag co pa me so kd yr mn pt sz).2.2.2.2.1) ((rX2_addPerson_7 ki ag co pa me so kd yr mn pt sz).2.2.2.2.2.1) ((rX2_addPerson_7 ki ag co pa me so kd yr mn pt sz).2.2.2.2.2.2.1) (nI ((rX2_addPerson_7 ki ag co pa me so kd yr mn pt sz).2.2.2.2.2.2.2)) wa be pr dki dag dco dpa dme dso drs dwa dbe dpr nt nm nb nc nd ns np tnt tnm tnb tnc tnd tns tnp pf ph pst kh kst os og oh cs mo le se pk pc lf ab cu cd) (some (.int (gB (rX2_addPerson_7 ki ag co pa me so kd yr mn pt sz).1)))) := by
  refine M.of (L0 := [.ref 7, .int kd, .int yr, .int mn, .int pt]) (by decide +kernel) (Nat.le_of_ble_eq_true rfl) rfl ?_
  refine g_aload_n dX2_addPerson_0 rfl 1 rfl rfl ?_
  refine g_get (v := .int (nI sz)) dX2_addPerson_1 4 rfl lX2_39 rfl rfl ?_
  refine g_bipush 9 dX2_addPerson_4 6 rfl (by decide) ?_
  refine g_icmp_ge dX2_addPerson_6 20 rfl 9 rfl (fun c1 => ?_) (fun c1 => ?_)
  · refine g_iconst 0 dX2_addPerson_20 21 rfl (by decide) ?_
    refine g_ireturn dX2_addPerson_21 rfl rfl (Nat.le_refl _) (Nat.le_refl _) ?_
    have e : (rX2_addPerson_7 ki ag co pa me so kd yr mn pt sz) = (false, ki, ag, co, pa, me, so, sz) := by rw [rX2_addPerson_7, if_pos c1]
    rw [e]
    exact ⟨rfl, rfl⟩
  · refine g_iload_n dX2_addPerson_9 rfl 10 rfl rfl ?_
    refine g_iconst 3 dX2_addPerson_10 11 rfl (by decide) ?_
    refine g_icmp_gt dX2_addPerson_11 20 rfl 14 rfl (fun c2 => ?_) (fun c2 => ?_)
    · refine g_iconst 0 dX2_addPerson_20 21 rfl (by decide) ?_
      refine g_ireturn dX2_addPerson_21 rfl rfl (Nat.le_refl _) (Nat.le_refl _) ?_
      have e : (rX2_addPerson_7 ki ag co pa me so kd yr mn pt sz) = (false, ki, ag, co, pa, me, so, sz) := by rw [rX2_addPerson_7, if_neg c1, if_pos c2]
      rw [e]
      exact ⟨rfl, rfl⟩
    · refine g_iload dX2_addPerson_14 16 rfl rfl ?_
      refine g_iconst 5 dX2_addPerson_16 17 rfl (by decide) ?_
      refine g_icmp_le dX2_addPerson_17 22 rfl 20 rfl (fun c3 => ?_) (fun c3 => ?_)
      · refine g_aload_n dX2_addPerson_22 rfl 23 rfl rfl ?_
        refine g_get (v := .ref 8) dX2_addPerson_23 26 rfl lX2_14 rfl rfl ?_
        refine g_aload_n dX2_addPerson_26 rfl 27 rfl rfl ?_
        refine g_get (v := .int (nI sz)) dX2_addPerson_27 30 rfl lX2_39 rfl rfl ?_
        refine g_iload_n dX2_addPerson_30 rfl 31 rfl rfl ?_
        refine g_cV0 (as := [.int (nI sz), .int kd]) (st := []) dX2_addPerson_31 34 rfl kX2_55 ⟨Nat.le_of_ble_eq_true rfl, Nat.le_of_ble_eq_true rfl⟩ (MX3_putN (k := 8) (j := 9) (N := 9) (f := ki) rfl rfl (by decide) sz (by have q : sz < 9 := Nat.lt_of_not_le (fun z => c1 (nI_le (a := 9) z (by omega))); omega) kd (h' := (hC tl tn rn rp (gup ki (nI sz) kd) ag co pa me so (nI sz) wa be pr dki dag dco dpa dme dso drs dwa dbe dpr nt nm nb nc nd ns np tnt tnm tnb tnc tnd tns tnp pf ph pst kh kst os og oh cs mo le se pk pc lf ab cu cd)) rfl) rfl rfl rfl rfl (Nat.le_of_ble_eq_true rfl) (Nat.le_refl _) (Nat.le_refl _) ?_
        refine g_aload_n dX2_addPerson_34 rfl 35 rfl rfl ?_
        refine g_get (v := .ref 10) dX2_addPerson_35 38 rfl lX2_20 rfl rfl ?_
        refine g_aload_n dX2_addPerson_38 rfl 39 rfl rfl ?_
        refine g_get (v := .int (nI sz)) dX2_addPerson_39 42 rfl lX2_39 rfl rfl ?_
        refine g_iload_n dX2_addPerson_42 rfl 43 rfl rfl ?_
        refine g_cV0 (as := [.int (nI sz), .int yr]) (st := []) dX2_addPerson_43 46 rfl kX2_55 ⟨Nat.le_of_ble_eq_true rfl, Nat.le_of_ble_eq_true rfl⟩ (MX3_putN (k := 10) (j := 11) (N := 9) (f := ag) rfl rfl (by decide) sz (by have q : sz < 9 := Nat.lt_of_not_le (fun z => c1 (nI_le (a := 9) z (by omega))); omega) yr (h' := (hC tl tn rn rp (gup ki (nI sz) kd) (gup ag (nI sz) yr) co pa me so (nI sz) wa be pr dki dag dco dpa dme dso drs dwa dbe dpr nt nm nb nc nd ns np tnt tnm tnb tnc tnd tns tnp pf ph pst kh kst os og oh cs mo le se pk pc lf ab cu cd)) rfl) rfl rfl rfl rfl (Nat.le_of_ble_eq_true rfl) (Nat.le_refl _) (Nat.le_refl _) ?_
        refine g_aload_n dX2_addPerson_46 rfl 47 rfl rfl ?_
        refine g_get (v := .ref 12) dX2_addPerson_47 50 rfl lX2_23 rfl rfl ?_
        refine g_aload_n dX2_addPerson_50 rfl 51 rfl rfl ?_
        refine g_get (v := .int (nI sz)) dX2_addPerson_51 54 rfl lX2_39 rfl rfl ?_
        refine g_iload_n dX2_addPerson_54 rfl 55 rfl rfl ?_
        refine g_cV0 (as := [.int (nI sz), .int mn]) (st := []) dX2_addPerson_55 58 rfl kX2_55 ⟨Nat.le_of_ble_eq_true rfl, Nat.le_of_ble_eq_true rfl⟩ (MX3_putN (k := 12) (j := 13) (N := 9) (f := co) rfl rfl (by decide) sz (by have q : sz < 9 := Nat.lt_of_not_le (fun z => c1 (nI_le (a := 9) z (by omega))); omega) mn (h' := (hC tl tn rn rp (gup ki (nI sz) kd) (gup ag (nI sz) yr) (gup co (nI sz) mn) pa me so (nI sz) wa be pr dki dag dco dpa dme dso drs dwa dbe dpr nt nm nb nc nd ns np tnt tnm tnb tnc tnd tns tnp pf ph pst kh kst os og oh cs mo le se pk pc lf ab cu cd)) rfl) rfl rfl rfl rfl (Nat.le_of_ble_eq_true rfl) (Nat.le_refl _) (Nat.le_refl _) ?_
        refine g_aload_n dX2_addPerson_58 rfl 59 rfl rfl ?_
        refine g_get (v := .ref 14) dX2_addPerson_59 62 rfl lX2_26 rfl rfl ?_
        refine g_aload_n dX2_addPerson_62 rfl 63 rfl rfl ?_
        refine g_get (v := .int (nI sz)) dX2_addPerson_63 66 rfl lX2_39 rfl rfl ?_
        refine g_iload dX2_addPerson_66 68 rfl rfl ?_
        refine g_cV0 (as := [.int (nI sz), .int pt]) (st := []) dX2_addPerson_68 71 rfl kX2_55 ⟨Nat.le_of_ble_eq_true rfl, Nat.le_of_ble_eq_true rfl⟩ (MX3_putN (k := 14) (j := 15) (N := 9) (f := pa) rfl rfl (by decide) sz (by have q : sz < 9 := Nat.lt_of_not_le (fun z => c1 (nI_le (a := 9) z (by omega))); omega) pt (h' := (hC tl tn rn rp (gup ki (nI sz) kd) (gup ag (nI sz) yr) (gup co (nI sz) mn) (gup pa (nI sz) pt) me so (nI sz) wa be pr dki dag dco dpa dme dso drs dwa dbe dpr nt nm nb nc nd ns np tnt tnm tnb tnc tnd tns tnp pf ph pst kh kst os og oh cs mo le se pk pc lf ab cu cd)) rfl) rfl rfl rfl rfl (Nat.le_of_ble_eq_true rfl) (Nat.le_refl _) (Nat.le_refl _) ?_
        refine g_aload_n dX2_addPerson_71 rfl 72 rfl rfl ?_
        refine g_get (v := .ref 16) dX2_addPerson_72 75 rfl lX2_29 rfl rfl ?_
        refine g_iload dX2_addPerson_75 77 rfl rfl ?_
        refine g_aload_n dX2_addPerson_77 rfl 78 rfl rfl ?_
        refine g_get (v := .ref 16) dX2_addPerson_78 81 rfl lX2_29 rfl rfl ?_
        refine g_iload dX2_addPerson_81 83 rfl rfl ?_
        refine g_cVv (as := [.int pt]) (st := [.int pt, .ref 16]) dX2_addPerson_83 86 rfl kX2_59 ⟨Nat.le_of_ble_eq_true rfl, Nat.le_of_ble_eq_true rfl⟩ (MX3_at (k := 16) (j := 17) (N := 6) (f := me) rfl rfl (by decide) pt) rfl rfl rfl rfl (Nat.le_of_ble_eq_true rfl) (Nat.le_refl _) (Nat.le_refl _) ?_
        refine g_iconst 1 dX2_addPerson_86 87 rfl (by decide) ?_
        refine g_aload_n dX2_addPerson_87 rfl 88 rfl rfl ?_
        refine g_get (v := .int (nI sz)) dX2_addPerson_88 91 rfl lX2_39 rfl rfl ?_
        refine g_ishl' dX2_addPerson_91 92 rfl (nI (2 ^ sz)) (z_1shl (by omega)) ?_
        refine g_ior dX2_addPerson_92 93 rfl ?_
        refine g_cV0 (as := [.int pt, .int ((rAt 6 me pt) ||| (nI (2 ^ sz)))]) (st := []) dX2_addPerson_93 96 rfl kX2_55 ⟨Nat.le_of_ble_eq_true rfl, Nat.le_of_ble_eq_true rfl⟩ (MX3_put (k := 16) (j := 17) (N := 6) (f := me) rfl rfl (by decide) pt ((rAt 6 me pt) ||| (nI (2 ^ sz))) (h' := (hC tl tn rn rp (gup ki (nI sz) kd) (gup ag (nI sz) yr) (gup co (nI sz) mn) (gup pa (nI sz) pt) (rPut 6 me pt ((rAt 6 me pt) ||| (nI (2 ^ sz)))) so (nI sz) wa be pr dki dag dco dpa dme dso drs dwa dbe dpr nt nm nb nc nd ns np tnt tnm tnb tnc tnd tns tnp pf ph pst kh kst os og oh cs mo le se pk pc lf ab cu cd)) rfl) rfl rfl rfl rfl (Nat.le_of_ble_eq_true rfl) (Nat.le_refl _) (Nat.le_refl _) ?_
        refine g_iload_n dX2_addPerson_96 rfl 97 rfl rfl ?_
        refine g_iconst 3 dX2_addPerson_97 98 rfl (by decide) ?_
        refine g_icmp_ne dX2_addPerson_98 116 rfl 101 rfl (fun c4 => ?_) (fun c4 => ?_)
        · refine g_aload_n dX2_addPerson_116 rfl 117 rfl rfl ?_
          refine g_dup dX2_addPerson_117 118 rfl rfl ?_
          refine g_get (v := .int (nI sz)) dX2_addPerson_118 121 rfl lX2_39 rfl rfl ?_
          refine g_iconst 1 dX2_addPerson_121 122 rfl (by decide) ?_
          refine g_iadd' dX2_addPerson_122 123 rfl (nI (sz + 1)) (nI_add _ 1) ?_
          refine g_put dX2_addPerson_123 126 rfl lX2_39 wrX2 rfl rfl rfl rfl rfl (Nat.le_of_ble_eq_true rfl) (h' := (hC tl tn rn rp (gup ki (nI sz) kd) (gup ag (nI sz) yr) (gup co (nI sz) mn) (gup pa (nI sz) pt) (rPut 6 me pt ((rAt 6 me pt) ||| (nI (2 ^ sz)))) so (nI (sz + 1)) wa be pr dki dag dco dpa dme dso drs dwa dbe dpr nt nm nb nc nd ns np tnt tnm tnb tnc tnd tns tnp pf ph pst kh kst os og oh cs mo le se pk pc lf ab cu cd)) rfl ?_
          refine g_iconst 1 dX2_addPerson_126 127 rfl (by decide) ?_
          refine g_ireturn dX2_addPerson_127 rfl rfl (Nat.le_refl _) (Nat.le_refl _) ?_
          have e : (rX2_addPerson_7 ki ag co pa me so kd yr mn pt sz) = (true, (gup ki (nI sz) kd), (gup ag (nI sz) yr), (gup co (nI sz) mn), (gup pa (nI sz) pt), (rPut 6 me pt ((rAt 6 me pt) ||| (nI (2 ^ sz)))), so, sz + 1) := by rw [rX2_addPerson_7, if_neg c1, if_neg c2, if_pos c3, if_neg c4]
          rw [e]
          exact ⟨rfl, rfl⟩
        · refine g_aload_n dX2_addPerson_101 rfl 102 rfl rfl ?_
          refine g_dup dX2_addPerson_102 103 rfl rfl ?_
          refine g_get (v := .int so) dX2_addPerson_103 106 rfl lX2_35 rfl rfl ?_
          refine g_iconst 1 dX2_addPerson_106 107 rfl (by decide) ?_
          refine g_aload_n dX2_addPerson_107 rfl 108 rfl rfl ?_
          refine g_get (v := .int (nI sz)) dX2_addPerson_108 111 rfl lX2_39 rfl rfl ?_
          refine g_ishl' dX2_addPerson_111 112 rfl (nI (2 ^ sz)) (z_1shl (by omega)) ?_
          refine g_ior dX2_addPerson_112 113 rfl ?_
          refine g_put dX2_addPerson_113 116 rfl lX2_35 wrX2 rfl rfl rfl rfl rfl (Nat.le_of_ble_eq_true rfl) (h' := (hC tl tn rn rp (gup ki (nI sz) kd) (gup ag (nI sz) yr) (gup co (nI sz) mn) (gup pa (nI sz) pt) (rPut 6 me pt ((rAt 6 me pt) ||| (nI (2 ^ sz)))) (so ||| (nI (2 ^ sz))) (nI sz) wa be pr dki dag dco dpa dme dso drs dwa dbe dpr nt nm nb nc nd ns np tnt tnm tnb tnc tnd tns tnp pf ph pst kh kst os og oh cs mo le se pk pc lf ab cu cd)) rfl ?_
          refine g_aload_n dX2_addPerson_116 rfl 117 rfl rfl ?_
          refine g_dup dX2_addPerson_117 118 rfl rfl ?_
          refine g_get (v := .int (nI sz)) dX2_addPerson_118 121 rfl lX2_39 rfl rfl ?_
          refine g_iconst 1 dX2_addPerson_121 122 rfl (by decide) ?_
          refine g_iadd' dX2_addPerson_122 123 rfl (nI (sz + 1)) (nI_add _ 1) ?_
          refine g_put dX2_addPerson_123 126 rfl lX2_39 wrX2 rfl rfl rfl rfl rfl (Nat.le_of_ble_eq_true rfl) (h' := (hC tl tn rn rp (gup ki (nI sz) kd) (gup ag (nI sz) yr) (gup co (nI sz) mn) (gup pa (nI sz) pt) (rPut 6 me pt ((rAt 6 me pt) ||| (nI (2 ^ sz)))) (so ||| (nI (2 ^ sz))) (nI (sz + 1)) wa be pr dki dag dco dpa dme dso drs dwa dbe dpr nt nm nb nc nd ns np tnt tnm tnb tnc tnd tns tnp pf ph pst kh kst os og oh cs mo le se pk pc lf ab cu cd)) rfl ?_
          refine g_iconst 1 dX2_addPerson_126 127 rfl (by decide) ?_
          refine g_ireturn dX2_addPerson_127 rfl rfl (Nat.le_refl _) (Nat.le_refl _) ?_
          have e : (rX2_addPerson_7 ki ag co pa me so kd yr mn pt sz) = (true, (gup ki (nI sz) kd), (gup ag (nI sz) yr), (gup co (nI sz) mn), (gup pa (nI sz) pt), (rPut 6 me pt ((rAt 6 me pt) ||| (nI (2 ^ sz)))), (so ||| (nI (2 ^ sz))), sz + 1) := by rw [rX2_addPerson_7, if_neg c1, if_neg c2, if_pos c3, if_pos c4]
          rw [e]
          exact ⟨rfl, rfl⟩
      · refine g_iconst 0 dX2_addPerson_20 21 rfl (by decide) ?_
        refine g_ireturn dX2_addPerson_21 rfl rfl (Nat.le_refl _) (Nat.le_refl _) ?_
        have e : (rX2_addPerson_7 ki ag co pa me so kd yr mn pt sz) = (false, ki, ag, co, pa, me, so, sz) := by rw [rX2_addPerson_7, if_neg c1, if_neg c2, if_neg c3]
        rw [e]
        exact ⟨rfl, rfl⟩
set_option maxRecDepth 100000 in
set_option maxHeartbeats 4000000 in
theorem MX2_addPerson_18 {w : gW} {al : Bool} {tl rn ki ag co pa me dki dag dco dpa dme nt tnt os og cs mo le se ab : Int32 → Int32} {tn rp so rs wa be pr dso dwa dbe dpr nm nb nc nd ns np tnm tnb tnc tnd tns tnp ph kh oh pk pc lf cu cd : Int32} {pf : Nat → Option Nat} {pst kst : Nat → gS} {sz : Nat} (kd : Int32) (yr : Int32) (mn : Int32) (pt : Int32) (hs : sz ≤ 9)  : M w gT0 al mX2_addPerson 0 0 (hC tl tn rn rp ki ag co pa me so rs wa be pr dki dag dco dpa dme dso (nI sz) dwa dbe dpr nt nm nb nc nd ns np tnt tnm tnb tnc tnd tns tnp pf ph pst kh kst os og oh cs mo le se pk pc lf ab cu cd) [.ref 18, .int kd, .int yr, .int mn, .int pt] (gEq (hC tl tn rn rp ki ag co pa me so rs wa be pr ((rX2_addPerson_7 dki dag dco dpa dme dso kd yr mn pt sz).2.1) ((rX2_addPerson_7 dki dag dco dpa dme dso kd yr mn pt sz).2.2.1) ((rX2_addPerson_7 dki dag dco dpa dme dso kd yr mn pt sz).2.2.2.1) ((rX2_addPerson_7 dki dag dco dpa dme dso kd yr mn pt sz).2.2.2.2.1) ((rX2_addPerson_7 dki dag dco dpa dme dso kd yr mn pt sz).2.2.2.2.2.1) ((rX2_addPerson_7 dki dag dco dpa dme dso kd yr mn pt sz).2.2.2.2.2.2.1) (nI ((rX2_addPerson_7 dki dag dco dpa dme dso kd yr mn pt sz).2.2.2.2.2.2.2)) dwa dbe dpr nt nm nb nc nd ns np tnt tnm tnb tnc tnd tns tnp pf ph pst kh kst os og oh cs mo le se pk pc lf ab cu cd) (some (.int (gB (rX2_addPerson_7 dki dag dco dpa dme dso kd yr mn pt sz).1)))) := by
  refine M.of (L0 := [.ref 18, .int kd, .int yr, .int mn, .int pt]) (by decide +kernel) (Nat.le_of_ble_eq_true rfl) rfl ?_
  refine g_aload_n dX2_addPerson_0 rfl 1 rfl rfl ?_
  refine g_get (v := .int (nI sz)) dX2_addPerson_1 4 rfl lX2_39 rfl rfl ?_
  refine g_bipush 9 dX2_addPerson_4 6 rfl (by decide) ?_
  refine g_icmp_ge dX2_addPerson_6 20 rfl 9 rfl (fun c1 => ?_) (fun c1 => ?_)
  · refine g_iconst 0 dX2_addPerson_20 21 rfl (by decide) ?_
    refine g_ireturn dX2_addPerson_21 rfl rfl (Nat.le_refl _) (Nat.le_refl _) ?_
    have e : (rX2_addPerson_7 dki dag dco dpa dme dso kd yr mn pt sz) = (false, dki, dag, dco, dpa, dme, dso, sz) := by rw [rX2_addPerson_7, if_pos c1]
    rw [e]
    exact ⟨rfl, rfl⟩
  · refine g_iload_n dX2_addPerson_9 rfl 10 rfl rfl ?_
    refine g_iconst 3 dX2_addPerson_10 11 rfl (by decide) ?_
    refine g_icmp_gt dX2_addPerson_11 20 rfl 14 rfl (fun c2 => ?_) (fun c2 => ?_)
    · refine g_iconst 0 dX2_addPerson_20 21 rfl (by decide) ?_
      refine g_ireturn dX2_addPerson_21 rfl rfl (Nat.le_refl _) (Nat.le_refl _) ?_
      have e : (rX2_addPerson_7 dki dag dco dpa dme dso kd yr mn pt sz) = (false, dki, dag, dco, dpa, dme, dso, sz) := by rw [rX2_addPerson_7, if_neg c1, if_pos c2]
      rw [e]
      exact ⟨rfl, rfl⟩
    · refine g_iload dX2_addPerson_14 16 rfl rfl ?_
      refine g_iconst 5 dX2_addPerson_16 17 rfl (by decide) ?_
      refine g_icmp_le dX2_addPerson_17 22 rfl 20 rfl (fun c3 => ?_) (fun c3 => ?_)
      · refine g_aload_n dX2_addPerson_22 rfl 23 rfl rfl ?_
        refine g_get (v := .ref 19) dX2_addPerson_23 26 rfl lX2_14 rfl rfl ?_
        refine g_aload_n dX2_addPerson_26 rfl 27 rfl rfl ?_
        refine g_get (v := .int (nI sz)) dX2_addPerson_27 30 rfl lX2_39 rfl rfl ?_
        refine g_iload_n dX2_addPerson_30 rfl 31 rfl rfl ?_
        refine g_cV0 (as := [.int (nI sz), .int kd]) (st := []) dX2_addPerson_31 34 rfl kX2_55 ⟨Nat.le_of_ble_eq_true rfl, Nat.le_of_ble_eq_true rfl⟩ (MX3_putN (k := 19) (j := 20) (N := 9) (f := dki) rfl rfl (by decide) sz (by have q : sz < 9 := Nat.lt_of_not_le (fun z => c1 (nI_le (a := 9) z (by omega))); omega) kd (h' := (hC tl tn rn rp ki ag co pa me so rs wa be pr (gup dki (nI sz) kd) dag dco dpa dme dso (nI sz) dwa dbe dpr nt nm nb nc nd ns np tnt tnm tnb tnc tnd tns tnp pf ph pst kh kst os og oh cs mo le se pk pc lf ab cu cd)) rfl) rfl rfl rfl rfl (Nat.le_of_ble_eq_true rfl) (Nat.le_refl _) (Nat.le_refl _) ?_
        refine g_aload_n dX2_addPerson_34 rfl 35 rfl rfl ?_
        refine g_get (v := .ref 21) dX2_addPerson_35 38 rfl lX2_20 rfl rfl ?_
        refine g_aload_n dX2_addPerson_38 rfl 39 rfl rfl ?_
        refine g_get (v := .int (nI sz)) dX2_addPerson_39 42 rfl lX2_39 rfl rfl ?_
        refine g_iload_n dX2_addPerson_42 rfl 43 rfl rfl ?_
        refine g_cV0 (as := [.int (nI sz), .int yr]) (st := []) dX2_addPerson_43 46 rfl kX2_55 ⟨Nat.le_of_ble_eq_true rfl, Nat.le_of_ble_eq_true rfl⟩ (MX3_putN (k := 21) (j := 22) (N := 9) (f := dag) rfl rfl (by decide) sz (by have q : sz < 9 := Nat.lt_of_not_le (fun z => c1 (nI_le (a := 9) z (by omega))); omega) yr (h' := (hC tl tn rn rp ki ag co pa me so rs wa be pr (gup dki (nI sz) kd) (gup dag (nI sz) yr) dco dpa dme dso (nI sz) dwa dbe dpr nt nm nb nc nd ns np tnt tnm tnb tnc tnd tns tnp pf ph pst kh kst os og oh cs mo le se pk pc lf ab cu cd)) rfl) rfl rfl rfl rfl (Nat.le_of_ble_eq_true rfl) (Nat.le_refl _) (Nat.le_refl _) ?_
        refine g_aload_n dX2_addPerson_46 rfl 47 rfl rfl ?_
        refine g_get (v := .ref 23) dX2_addPerson_47 50 rfl lX2_23 rfl rfl ?_
        refine g_aload_n dX2_addPerson_50 rfl 51 rfl rfl ?_
        refine g_get (v := .int (nI sz)) dX2_addPerson_51 54 rfl lX2_39 rfl rfl ?_
        refine g_iload_n dX2_addPerson_54 rfl 55 rfl rfl ?_
        refine g_cV0 (as := [.int (nI sz), .int mn]) (st := []) dX2_addPerson_55 58 rfl kX2_55 ⟨Nat.le_of_ble_eq_true rfl, Nat.le_of_ble_eq_true rfl⟩ (MX3_putN (k := 23) (j := 24) (N := 9) (f := dco) rfl rfl (by decide) sz (by have q : sz < 9 := Nat.lt_of_not_le (fun z => c1 (nI_le (a := 9) z (by omega))); omega) mn (h' := (hC tl tn rn rp ki ag co pa me so rs wa be pr (gup dki (nI sz) kd) (gup dag (nI sz) yr) (gup dco (nI sz) mn) dpa dme dso (nI sz) dwa dbe dpr nt nm nb nc nd ns np tnt tnm tnb tnc tnd tns tnp pf ph pst kh kst os og oh cs mo le se pk pc lf ab cu cd)) rfl) rfl rfl rfl rfl (Nat.le_of_ble_eq_true rfl) (Nat.le_refl _) (Nat.le_refl _) ?_
        refine g_aload_n dX2_addPerson_58 rfl 59 rfl rfl ?_
        refine g_get (v := .ref 25) dX2_addPerson_59 62 rfl lX2_26 rfl rfl ?_
        refine g_aload_n dX2_addPerson_62 rfl 63 rfl rfl ?_
        refine g_get (v := .int (nI sz)) dX2_addPerson_63 66 rfl lX2_39 rfl rfl ?_
        refine g_iload dX2_addPerson_66 68 rfl rfl ?_
        refine g_cV0 (as := [.int (nI sz), .int pt]) (st := []) dX2_addPerson_68 71 rfl kX2_55 ⟨Nat.le_of_ble_eq_true rfl, Nat.le_of_ble_eq_true rfl⟩ (MX3_putN (k := 25) (j := 26) (N := 9) (f := dpa) rfl rfl (by decide) sz (by have q : sz < 9 := Nat.lt_of_not_le (fun z => c1 (nI_le (a := 9) z (by omega))); omega) pt (h' := (hC tl tn rn rp ki ag co pa me so rs wa be pr (gup dki (nI sz) kd) (gup dag (nI sz) yr) (gup dco (nI sz) mn) (gup dpa (nI sz) pt) dme dso (nI sz) dwa dbe dpr nt nm nb nc nd ns np tnt tnm tnb tnc tnd tns tnp pf ph pst kh kst os og oh cs mo le se pk pc lf ab cu cd)) rfl) rfl rfl rfl rfl (Nat.le_of_ble_eq_true rfl) (Nat.le_refl _) (Nat.le_refl _) ?_
        refine g_aload_n dX2_addPerson_71 rfl 72 rfl rfl ?_
        refine g_get (v := .ref 27) dX2_addPerson_72 75 rfl lX2_29 rfl rfl ?_
        refine g_iload dX2_addPerson_75 77 rfl rfl ?_
        refine g_aload_n dX2_addPerson_77 rfl 78 rfl rfl ?_
        refine g_get (v := .ref 27) dX2_addPerson_78 81 rfl lX2_29 rfl rfl ?_
        refine g_iload dX2_addPerson_81 83 rfl rfl ?_
        refine g_cVv (as := [.int pt]) (st := [.int pt, .ref 27]) dX2_addPerson_83 86 rfl kX2_59 ⟨Nat.le_of_ble_eq_true rfl, Nat.le_of_ble_eq_true rfl⟩ (MX3_at (k := 27) (j := 28) (N := 6) (f := dme) rfl rfl (by decide) pt) rfl rfl rfl rfl (Nat.le_of_ble_eq_true rfl) (Nat.le_refl _) (Nat.le_refl _) ?_
        refine g_iconst 1 dX2_addPerson_86 87 rfl (by decide) ?_
        refine g_aload_n dX2_addPerson_87 rfl 88 rfl rfl ?_
        refine g_get (v := .int (nI sz)) dX2_addPerson_88 91 rfl lX2_39 rfl rfl ?_
        refine g_ishl' dX2_addPerson_91 92 rfl (nI (2 ^ sz)) (z_1shl (by omega)) ?_
        refine g_ior dX2_addPerson_92 93 rfl ?_
        refine g_cV0 (as := [.int pt, .int ((rAt 6 dme pt) ||| (nI (2 ^ sz)))]) (st := []) dX2_addPerson_93 96 rfl kX2_55 ⟨Nat.le_of_ble_eq_true rfl, Nat.le_of_ble_eq_true rfl⟩ (MX3_put (k := 27) (j := 28) (N := 6) (f := dme) rfl rfl (by decide) pt ((rAt 6 dme pt) ||| (nI (2 ^ sz))) (h' := (hC tl tn rn rp ki ag co pa me so rs wa be pr (gup dki (nI sz) kd) (gup dag (nI sz) yr) (gup dco (nI sz) mn) (gup dpa (nI sz) pt) (rPut 6 dme pt ((rAt 6 dme pt) ||| (nI (2 ^ sz)))) dso (nI sz) dwa dbe dpr nt nm nb nc nd ns np tnt tnm tnb tnc tnd tns tnp pf ph pst kh kst os og oh cs mo le se pk pc lf ab cu cd)) rfl) rfl rfl rfl rfl (Nat.le_of_ble_eq_true rfl) (Nat.le_refl _) (Nat.le_refl _) ?_
        refine g_iload_n dX2_addPerson_96 rfl 97 rfl rfl ?_
        refine g_iconst 3 dX2_addPerson_97 98 rfl (by decide) ?_
        refine g_icmp_ne dX2_addPerson_98 116 rfl 101 rfl (fun c4 => ?_) (fun c4 => ?_)
        · refine g_aload_n dX2_addPerson_116 rfl 117 rfl rfl ?_
          refine g_dup dX2_addPerson_117 118 rfl rfl ?_
          refine g_get (v := .int (nI sz)) dX2_addPerson_118 121 rfl lX2_39 rfl rfl ?_
          refine g_iconst 1 dX2_addPerson_121 122 rfl (by decide) ?_
          refine g_iadd' dX2_addPerson_122 123 rfl (nI (sz + 1)) (nI_add _ 1) ?_
          refine g_put dX2_addPerson_123 126 rfl lX2_39 wrX2 rfl rfl rfl rfl rfl (Nat.le_of_ble_eq_true rfl) (h' := (hC tl tn rn rp ki ag co pa me so rs wa be pr (gup dki (nI sz) kd) (gup dag (nI sz) yr) (gup dco (nI sz) mn) (gup dpa (nI sz) pt) (rPut 6 dme pt ((rAt 6 dme pt) ||| (nI (2 ^ sz)))) dso (nI (sz + 1)) dwa dbe dpr nt nm nb nc nd ns np tnt tnm tnb tnc tnd tns tnp pf ph pst kh kst os og oh cs mo le se pk pc lf ab cu cd)) rfl ?_
          refine g_iconst 1 dX2_addPerson_126 127 rfl (by decide) ?_
          refine g_ireturn dX2_addPerson_127 rfl rfl (Nat.le_refl _) (Nat.le_refl _) ?_
          have e : (rX2_addPerson_7 dki dag dco dpa dme dso kd yr mn pt sz) = (true, (gup dki (nI sz) kd), (gup dag (nI sz) yr), (gup dco (nI sz) mn), (gup dpa (nI sz) pt), (rPut 6 dme pt ((rAt 6 dme pt) ||| (nI (2 ^ sz)))), dso, sz + 1) := by rw [rX2_addPerson_7, if_neg c1, if_neg c2, if_pos c3, if_neg c4]
          rw [e]
          exact ⟨rfl, rfl⟩
        · refine g_aload_n dX2_addPerson_101 rfl 102 rfl rfl ?_
          refine g_dup dX2_addPerson_102 103 rfl rfl ?_
          refine g_get (v := .int dso) dX2_addPerson_103 106 rfl lX2_35 rfl rfl ?_
          refine g_iconst 1 dX2_addPerson_106 107 rfl (by decide) ?_
          refine g_aload_n dX2_addPerson_107 rfl 108 rfl rfl ?_
          refine g_get (v := .int (nI sz)) dX2_addPerson_108 111 rfl lX2_39 rfl rfl ?_
          refine g_ishl' dX2_addPerson_111 112 rfl (nI (2 ^ sz)) (z_1shl (by omega)) ?_
          refine g_ior dX2_addPerson_112 113 rfl ?_
          refine g_put dX2_addPerson_113 116 rfl lX2_35 wrX2 rfl rfl rfl rfl rfl (Nat.le_of_ble_eq_true rfl) (h' := (hC tl tn rn rp ki ag co pa me so rs wa be pr (gup dki (nI sz) kd) (gup dag (nI sz) yr) (gup dco (nI sz) mn) (gup dpa (nI sz) pt) (rPut 6 dme pt ((rAt 6 dme pt) ||| (nI (2 ^ sz)))) (dso ||| (nI (2 ^ sz))) (nI sz) dwa dbe dpr nt nm nb nc nd ns np tnt tnm tnb tnc tnd tns tnp pf ph pst kh kst os og oh cs mo le se pk pc lf ab cu cd)) rfl ?_
          refine g_aload_n dX2_addPerson_116 rfl 117 rfl rfl ?_
          refine g_dup dX2_addPerson_117 118 rfl rfl ?_
          refine g_get (v := .int (nI sz)) dX2_addPerson_118 121 rfl lX2_39 rfl rfl ?_
          refine g_iconst 1 dX2_addPerson_121 122 rfl (by decide) ?_
          refine g_iadd' dX2_addPerson_122 123 rfl (nI (sz + 1)) (nI_add _ 1) ?_
          refine g_put dX2_addPerson_123 126 rfl lX2_39 wrX2 rfl rfl rfl rfl rfl (Nat.le_of_ble_eq_true rfl) (h' := (hC tl tn rn rp ki ag co pa me so rs wa be pr (gup dki (nI sz) kd) (gup dag (nI sz) yr) (gup dco (nI sz) mn) (gup dpa (nI sz) pt) (rPut 6 dme pt ((rAt 6 dme pt) ||| (nI (2 ^ sz)))) (dso ||| (nI (2 ^ sz))) (nI (sz + 1)) dwa dbe dpr nt nm nb nc nd ns np tnt tnm tnb tnc tnd tns tnp pf ph pst kh kst os og oh cs mo le se pk pc lf ab cu cd)) rfl ?_
          refine g_iconst 1 dX2_addPerson_126 127 rfl (by decide) ?_
          refine g_ireturn dX2_addPerson_127 rfl rfl (Nat.le_refl _) (Nat.le_refl _) ?_
          have e : (rX2_addPerson_7 dki dag dco dpa dme dso kd yr mn pt sz) = (true, (gup dki (nI sz) kd), (gup dag (nI sz) yr), (gup dco (nI sz) mn), (gup dpa (nI sz) pt), (rPut 6 dme pt ((rAt 6 dme pt) ||| (nI (2 ^ sz)))), (dso ||| (nI (2 ^ sz))), sz + 1) := by rw [rX2_addPerson_7, if_neg c1, if_neg c2, if_pos c3, if_pos c4]
          rw [e]
          exact ⟨rfl, rfl⟩
      · refine g_iconst 0 dX2_addPerson_20 21 rfl (by decide) ?_
        refine g_ireturn dX2_addPerson_21 rfl rfl (Nat.le_refl _) (Nat.le_refl _) ?_
        have e : (rX2_addPerson_7 dki dag dco dpa dme dso kd yr mn pt sz) = (false, dki, dag, dco, dpa, dme, dso, sz) := by rw [rX2_addPerson_7, if_neg c1, if_neg c2, if_neg c3]
        rw [e]
        exact ⟨rfl, rfl⟩
def fX2_agesOf_4 (ag : Int32 → Int32) (a : Nat) : Nat → (Int32) → (Int32)
  | i, u0 => (if (a.testBit i) = true then (u0 + (ag (nI i))) else (u0 + 0))
set_option maxRecDepth 100000 in
set_option maxHeartbeats 4000000 in
theorem LX2_agesOf_4 {w : gW} {al : Bool} {tl rn ki ag co pa me dki dag dco dpa dme nt tnt os og cs mo le se ab : Int32 → Int32} {tn rp so wa be pr dso drs dwa dbe dpr nm nb nc nd ns np tnm tnb tnc tnd tns tnp ph kh oh pk pc lf cu cd : Int32} {pf : Nat → Option Nat} {pst kst : Nat → gS} {n : Nat} {P : gP} {sz : Nat} {a : Nat} (hs : sz ≤ 9) (ha : a < 512)  : ∀ (d i : Nat) (u0 : Int32), i + d = sz → G w gT0 al n mX2_agesOf 0 0 P 0 0 (hC tl tn rn rp ki ag co pa me so (nI sz) wa be pr dki dag dco dpa dme dso drs dwa dbe dpr nt nm nb nc nd ns np tnt tnm tnb tnc tnd tns tnp pf ph pst kh kst os og oh cs mo le se pk pc lf ab cu cd) 41 [.ref 7, .int (nI a), .int (gLp (fX2_agesOf_4 ag a) d i u0), .int (nI sz)] [] → G w gT0 al n mX2_agesOf 0 0 P 0 0 (hC tl tn rn rp ki ag co pa me so (nI sz) wa be pr dki dag dco dpa dme dso drs dwa dbe dpr nt nm nb nc nd ns np tnt tnm tnb tnc tnd tns tnp pf ph pst kh kst os og oh cs mo le se pk pc lf ab cu cd) 4 [.ref 7, .int (nI a), .int u0, .int (nI i)] [] := by
  intro d
  induction d with
  | zero =>
    intro i u0 hi k
    have hN : i = sz := by omega
    rw [hN]
    rw [hN] at k
    refine g_iload_n dX2_agesOf_4 rfl 5 rfl rfl ?_
    refine g_aload_n dX2_agesOf_5 rfl 6 rfl rfl ?_
    refine g_get (v := .int (nI sz)) dX2_agesOf_6 9 rfl lX2_39 rfl rfl ?_
    refine g_icmp_ge dX2_agesOf_9 41 rfl 12 rfl (fun _ => ?_) (fun c => absurd (nI_le (Nat.le_refl _) (by omega)) c)
    exact k
  | succ d ih =>
    intro i u0 hi k
    refine g_iload_n dX2_agesOf_4 rfl 5 rfl rfl ?_
    refine g_aload_n dX2_agesOf_5 rfl 6 rfl rfl ?_
    refine g_get (v := .int (nI sz)) dX2_agesOf_6 9 rfl lX2_39 rfl rfl ?_
    refine g_icmp_ge dX2_agesOf_9 41 rfl 12 rfl (fun c => absurd c (nI_ge (by omega) (by omega))) (fun _ => ?_)
    refine g_iload_n dX2_agesOf_12 rfl 13 rfl rfl ?_
    refine g_iload_n dX2_agesOf_13 rfl 14 rfl rfl ?_
    refine g_iload_n dX2_agesOf_14 rfl 15 rfl rfl ?_
    refine g_cSNv (as := [.int (nI a), .int (nI i)]) (st := [.int u0]) dX2_agesOf_15 18 rfl kX2_63 ⟨Nat.le_of_ble_eq_true rfl, Nat.le_of_ble_eq_true rfl⟩ (MX9_has a i (by omega) (by omega)) rfl (Nat.le_of_ble_eq_true rfl) (Nat.le_refl _) (Nat.le_refl _) ?_
    refine g_if_eq dX2_agesOf_18 32 rfl 21 rfl (fun c1 => ?_) (fun c1 => ?_)
    · replace c1 := gB_f c1
      refine g_iconst 0 dX2_agesOf_32 33 rfl (by decide) ?_
      refine g_iadd dX2_agesOf_33 34 rfl ?_
      refine g_istore2 dX2_agesOf_34 35 rfl (by decide) rfl ?_
      refine g_iinc3 dX2_agesOf_35 38 rfl 1 (by decide) (nI (i + 1)) (nI_add _ 1) (by decide) rfl ?_
      refine g_goto dX2_agesOf_38 4 rfl ?_
      have e : (fX2_agesOf_4 ag a) i u0 = (u0 + 0) := by rw [fX2_agesOf_4, if_neg c1]
      refine ih (i + 1) (u0 + 0) (by omega) ?_
      rw [← e]
      exact k
    · replace c1 := gB_t c1
      refine g_aload_n dX2_agesOf_21 rfl 22 rfl rfl ?_
      refine g_get (v := .ref 10) dX2_agesOf_22 25 rfl lX2_20 rfl rfl ?_
      refine g_iload_n dX2_agesOf_25 rfl 26 rfl rfl ?_
      refine g_cVv (as := [.int (nI i)]) (st := [.int u0]) dX2_agesOf_26 29 rfl kX2_59 ⟨Nat.le_of_ble_eq_true rfl, Nat.le_of_ble_eq_true rfl⟩ (MX3_atN (k := 10) (j := 11) (N := 9) (f := ag) rfl rfl (by decide) i (by omega)) rfl rfl rfl rfl (Nat.le_of_ble_eq_true rfl) (Nat.le_refl _) (Nat.le_refl _) ?_
      refine g_goto dX2_agesOf_29 33 rfl ?_
      refine g_iadd dX2_agesOf_33 34 rfl ?_
      refine g_istore2 dX2_agesOf_34 35 rfl (by decide) rfl ?_
      refine g_iinc3 dX2_agesOf_35 38 rfl 1 (by decide) (nI (i + 1)) (nI_add _ 1) (by decide) rfl ?_
      refine g_goto dX2_agesOf_38 4 rfl ?_
      have e : (fX2_agesOf_4 ag a) i u0 = (u0 + (ag (nI i))) := by rw [fX2_agesOf_4, if_pos c1]
      refine ih (i + 1) (u0 + (ag (nI i))) (by omega) ?_
      rw [← e]
      exact k
def rX2_agesOf (ag : Int32 → Int32) (a : Nat) (sz : Nat) : Int32 := (gLp (fX2_agesOf_4 ag a) sz 0 0)
set_option maxRecDepth 100000 in
set_option maxHeartbeats 4000000 in
theorem MX2_agesOf {w : gW} {al : Bool} {tl rn ki ag co pa me dki dag dco dpa dme nt tnt os og cs mo le se ab : Int32 → Int32} {tn rp so wa be pr dso drs dwa dbe dpr nm nb nc nd ns np tnm tnb tnc tnd tns tnp ph kh oh pk pc lf cu cd : Int32} {pf : Nat → Option Nat} {pst kst : Nat → gS} {sz : Nat} (a : Nat) (hs : sz ≤ 9) (ha : a < 512)  : M w gT0 al mX2_agesOf 0 0 (hC tl tn rn rp ki ag co pa me so (nI sz) wa be pr dki dag dco dpa dme dso drs dwa dbe dpr nt nm nb nc nd ns np tnt tnm tnb tnc tnd tns tnp pf ph pst kh kst os og oh cs mo le se pk pc lf ab cu cd) [.ref 7, .int (nI a)] (gEq (hC tl tn rn rp ki ag co pa me so (nI sz) wa be pr dki dag dco dpa dme dso drs dwa dbe dpr nt nm nb nc nd ns np tnt tnm tnb tnc tnd tns tnp pf ph pst kh kst os og oh cs mo le se pk pc lf ab cu cd) (some (.int (rX2_agesOf ag a sz)))) := by
  refine M.of (L0 := [.ref 7, .int (nI a), gF, gF]) (by decide +kernel) (Nat.le_of_ble_eq_true rfl) rfl ?_
  refine g_iconst 0 dX2_agesOf_0 1 rfl (by decide) ?_
  refine g_istore2 dX2_agesOf_1 2 rfl (by decide) rfl ?_
  refine g_iconst 0 dX2_agesOf_2 3 rfl (by decide) ?_
  refine g_istore3 dX2_agesOf_3 4 rfl (by decide) rfl ?_
  refine LX2_agesOf_4 (a := a) (by omega) (by omega) sz 0 0 (by omega) ?_
  refine g_iload_n dX2_agesOf_41 rfl 42 rfl rfl ?_
  refine g_ireturn dX2_agesOf_42 rfl rfl (Nat.le_refl _) (Nat.le_refl _) ?_
  have e : (rX2_agesOf ag a sz) = (gLp (fX2_agesOf_4 ag a) sz 0 0) := by rw [rX2_agesOf]
  rw [e]
  exact ⟨rfl, rfl⟩
