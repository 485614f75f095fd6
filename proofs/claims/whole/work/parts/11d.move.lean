/-! the class: State, moves -/
def rX6_takeOn_29 (p : Nat) (bo : Nat) : Nat := bo ||| (2 ^ p)
set_option maxRecDepth 100000 in
set_option maxHeartbeats 4000000 in
theorem MX6_takeOn_29 {w : gW} {al : Bool} {tl rn ki ag co pa me dki dag dco dpa dme nt tnt os og cs mo le se ab : Int32 → Int32} {tn rp wa be pr dso drs dwa dbe dpr nm ns np tnm tnb tnc tnd tns tnp ph kh oh pk pc lf cu cd : Int32} {pf : Nat → Option Nat} {pst kst : Nat → gS} {sz bo cr de sd : Nat} (p : Nat) (hs : sz ≤ 9) (hp : p < 9)  : M w gT0 al mX6_takeOn 0 0 (hC tl tn rn rp ki ag co pa me (nI sd) (nI sz) wa be pr dki dag dco dpa dme dso drs dwa dbe dpr nt nm (nI bo) (nI cr) (nI de) ns np tnt tnm tnb tnc tnd tns tnp pf ph pst kh kst os og oh cs mo le se pk pc lf ab cu cd) [.ref 29, .int (nI p)] (gEq (hC tl tn rn rp ki ag co pa me (nI sd) (nI sz) wa be pr dki dag dco dpa dme dso drs dwa dbe dpr nt nm (nI (rX6_takeOn_29 p bo)) (nI cr) (nI de) ns np tnt tnm tnb tnc tnd tns tnp pf ph pst kh kst os og oh cs mo le se pk pc lf ab cu cd) none) := by
  refine M.of (L0 := [.ref 29, .int (nI p)]) (by decide +kernel) (Nat.le_of_ble_eq_true rfl) rfl ?_
  refine g_aload_n dX6_takeOn_0 rfl 1 rfl rfl ?_
  refine g_dup dX6_takeOn_1 2 rfl rfl ?_
  refine g_get (v := .int (nI bo)) dX6_takeOn_2 5 rfl lX6_31 rfl rfl ?_
  refine g_iconst 1 dX6_takeOn_5 6 rfl (by decide) ?_
  refine g_iload_n dX6_takeOn_6 rfl 7 rfl rfl ?_
  refine g_ishl' dX6_takeOn_7 8 rfl (nI (2 ^ p)) (z_1shl (by omega)) ?_
  refine g_ior' dX6_takeOn_8 9 rfl (nI (bo ||| (2 ^ p))) (z_or _ _) ?_
  refine g_put dX6_takeOn_9 12 rfl lX6_31 wrX6 rfl rfl rfl rfl rfl (Nat.le_of_ble_eq_true rfl) (h' := (hC tl tn rn rp ki ag co pa me (nI sd) (nI sz) wa be pr dki dag dco dpa dme dso drs dwa dbe dpr nt nm (nI (bo ||| (2 ^ p))) (nI cr) (nI de) ns np tnt tnm tnb tnc tnd tns tnp pf ph pst kh kst os og oh cs mo le se pk pc lf ab cu cd)) rfl ?_
  refine g_return dX6_takeOn_12 rfl (Nat.le_refl _) (Nat.le_refl _) ?_
  have e : (rX6_takeOn_29 p bo) = bo ||| (2 ^ p) := by rw [rX6_takeOn_29]
  rw [e]
  exact ⟨rfl, rfl⟩
set_option maxRecDepth 100000 in
set_option maxHeartbeats 4000000 in
theorem MX6_takeOn_32 {w : gW} {al : Bool} {tl rn ki ag co pa me dki dag dco dpa dme nt tnt os og cs mo le se ab : Int32 → Int32} {tn rp wa be pr dso drs dwa dbe dpr nm nb nc nd ns np tnm tns tnp ph kh oh pk pc lf cu cd : Int32} {pf : Nat → Option Nat} {pst kst : Nat → gS} {sz bo cr de sd : Nat} (p : Nat) (hs : sz ≤ 9) (hp : p < 9)  : M w gT0 al mX6_takeOn 0 0 (hC tl tn rn rp ki ag co pa me (nI sd) (nI sz) wa be pr dki dag dco dpa dme dso drs dwa dbe dpr nt nm nb nc nd ns np tnt tnm (nI bo) (nI cr) (nI de) tns tnp pf ph pst kh kst os og oh cs mo le se pk pc lf ab cu cd) [.ref 32, .int (nI p)] (gEq (hC tl tn rn rp ki ag co pa me (nI sd) (nI sz) wa be pr dki dag dco dpa dme dso drs dwa dbe dpr nt nm nb nc nd ns np tnt tnm (nI (rX6_takeOn_29 p bo)) (nI cr) (nI de) tns tnp pf ph pst kh kst os og oh cs mo le se pk pc lf ab cu cd) none) := by
  refine M.of (L0 := [.ref 32, .int (nI p)]) (by decide +kernel) (Nat.le_of_ble_eq_true rfl) rfl ?_
  refine g_aload_n dX6_takeOn_0 rfl 1 rfl rfl ?_
  refine g_dup dX6_takeOn_1 2 rfl rfl ?_
  refine g_get (v := .int (nI bo)) dX6_takeOn_2 5 rfl lX6_31 rfl rfl ?_
  refine g_iconst 1 dX6_takeOn_5 6 rfl (by decide) ?_
  refine g_iload_n dX6_takeOn_6 rfl 7 rfl rfl ?_
  refine g_ishl' dX6_takeOn_7 8 rfl (nI (2 ^ p)) (z_1shl (by omega)) ?_
  refine g_ior' dX6_takeOn_8 9 rfl (nI (bo ||| (2 ^ p))) (z_or _ _) ?_
  refine g_put dX6_takeOn_9 12 rfl lX6_31 wrX6 rfl rfl rfl rfl rfl (Nat.le_of_ble_eq_true rfl) (h' := (hC tl tn rn rp ki ag co pa me (nI sd) (nI sz) wa be pr dki dag dco dpa dme dso drs dwa dbe dpr nt nm nb nc nd ns np tnt tnm (nI (bo ||| (2 ^ p))) (nI cr) (nI de) tns tnp pf ph pst kh kst os og oh cs mo le se pk pc lf ab cu cd)) rfl ?_
  refine g_return dX6_takeOn_12 rfl (Nat.le_refl _) (Nat.le_refl _) ?_
  have e : (rX6_takeOn_29 p bo) = bo ||| (2 ^ p) := by rw [rX6_takeOn_29]
  rw [e]
  exact ⟨rfl, rfl⟩
def rX6_letOff_29 (p : Nat) (bo : Nat) : Nat := andN bo (2 ^ p)
set_option maxRecDepth 100000 in
set_option maxHeartbeats 4000000 in
theorem MX6_letOff_29 {w : gW} {al : Bool} {tl rn ki ag co pa me dki dag dco dpa dme nt tnt os og cs mo le se ab : Int32 → Int32} {tn rp wa be pr dso drs dwa dbe dpr nm ns np tnm tnb tnc tnd tns tnp ph kh oh pk pc lf cu cd : Int32} {pf : Nat → Option Nat} {pst kst : Nat → gS} {sz bo cr de sd : Nat} (p : Nat) (hs : sz ≤ 9) (hp : p < 9)  : M w gT0 al mX6_letOff 0 0 (hC tl tn rn rp ki ag co pa me (nI sd) (nI sz) wa be pr dki dag dco dpa dme dso drs dwa dbe dpr nt nm (nI bo) (nI cr) (nI de) ns np tnt tnm tnb tnc tnd tns tnp pf ph pst kh kst os og oh cs mo le se pk pc lf ab cu cd) [.ref 29, .int (nI p)] (gEq (hC tl tn rn rp ki ag co pa me (nI sd) (nI sz) wa be pr dki dag dco dpa dme dso drs dwa dbe dpr nt nm (nI (rX6_letOff_29 p bo)) (nI cr) (nI de) ns np tnt tnm tnb tnc tnd tns tnp pf ph pst kh kst os og oh cs mo le se pk pc lf ab cu cd) none) := by
  refine M.of (L0 := [.ref 29, .int (nI p)]) (by decide +kernel) (Nat.le_of_ble_eq_true rfl) rfl ?_
  refine g_aload_n dX6_letOff_0 rfl 1 rfl rfl ?_
  refine g_dup dX6_letOff_1 2 rfl rfl ?_
  refine g_get (v := .int (nI bo)) dX6_letOff_2 5 rfl lX6_31 rfl rfl ?_
  refine g_iconst 1 dX6_letOff_5 6 rfl (by decide) ?_
  refine g_iload_n dX6_letOff_6 rfl 7 rfl rfl ?_
  refine g_ishl' dX6_letOff_7 8 rfl (nI (2 ^ p)) (z_1shl (by omega)) ?_
  refine g_iconst (-1) dX6_letOff_8 9 rfl (by decide) ?_
  refine g_ixor dX6_letOff_9 10 rfl ?_
  refine g_iand' dX6_letOff_10 11 rfl (nI (andN bo (2 ^ p))) (z_andN _ _) ?_
  refine g_put dX6_letOff_11 14 rfl lX6_31 wrX6 rfl rfl rfl rfl rfl (Nat.le_of_ble_eq_true rfl) (h' := (hC tl tn rn rp ki ag co pa me (nI sd) (nI sz) wa be pr dki dag dco dpa dme dso drs dwa dbe dpr nt nm (nI (andN bo (2 ^ p))) (nI cr) (nI de) ns np tnt tnm tnb tnc tnd tns tnp pf ph pst kh kst os og oh cs mo le se pk pc lf ab cu cd)) rfl ?_
  refine g_return dX6_letOff_14 rfl (Nat.le_refl _) (Nat.le_refl _) ?_
  have e : (rX6_letOff_29 p bo) = andN bo (2 ^ p) := by rw [rX6_letOff_29]
  rw [e]
  exact ⟨rfl, rfl⟩
set_option maxRecDepth 100000 in
set_option maxHeartbeats 4000000 in
theorem MX6_letOff_32 {w : gW} {al : Bool} {tl rn ki ag co pa me dki dag dco dpa dme nt tnt os og cs mo le se ab : Int32 → Int32} {tn rp wa be pr dso drs dwa dbe dpr nm nb nc nd ns np tnm tns tnp ph kh oh pk pc lf cu cd : Int32} {pf : Nat → Option Nat} {pst kst : Nat → gS} {sz bo cr de sd : Nat} (p : Nat) (hs : sz ≤ 9) (hp : p < 9)  : M w gT0 al mX6_letOff 0 0 (hC tl tn rn rp ki ag co pa me (nI sd) (nI sz) wa be pr dki dag dco dpa dme dso drs dwa dbe dpr nt nm nb nc nd ns np tnt tnm (nI bo) (nI cr) (nI de) tns tnp pf ph pst kh kst os og oh cs mo le se pk pc lf ab cu cd) [.ref 32, .int (nI p)] (gEq (hC tl tn rn rp ki ag co pa me (nI sd) (nI sz) wa be pr dki dag dco dpa dme dso drs dwa dbe dpr nt nm nb nc nd ns np tnt tnm (nI (rX6_letOff_29 p bo)) (nI cr) (nI de) tns tnp pf ph pst kh kst os og oh cs mo le se pk pc lf ab cu cd) none) := by
  refine M.of (L0 := [.ref 32, .int (nI p)]) (by decide +kernel) (Nat.le_of_ble_eq_true rfl) rfl ?_
  refine g_aload_n dX6_letOff_0 rfl 1 rfl rfl ?_
  refine g_dup dX6_letOff_1 2 rfl rfl ?_
  refine g_get (v := .int (nI bo)) dX6_letOff_2 5 rfl lX6_31 rfl rfl ?_
  refine g_iconst 1 dX6_letOff_5 6 rfl (by decide) ?_
  refine g_iload_n dX6_letOff_6 rfl 7 rfl rfl ?_
  refine g_ishl' dX6_letOff_7 8 rfl (nI (2 ^ p)) (z_1shl (by omega)) ?_
  refine g_iconst (-1) dX6_letOff_8 9 rfl (by decide) ?_
  refine g_ixor dX6_letOff_9 10 rfl ?_
  refine g_iand' dX6_letOff_10 11 rfl (nI (andN bo (2 ^ p))) (z_andN _ _) ?_
  refine g_put dX6_letOff_11 14 rfl lX6_31 wrX6 rfl rfl rfl rfl rfl (Nat.le_of_ble_eq_true rfl) (h' := (hC tl tn rn rp ki ag co pa me (nI sd) (nI sz) wa be pr dki dag dco dpa dme dso drs dwa dbe dpr nt nm nb nc nd ns np tnt tnm (nI (andN bo (2 ^ p))) (nI cr) (nI de) tns tnp pf ph pst kh kst os og oh cs mo le se pk pc lf ab cu cd)) rfl ?_
  refine g_return dX6_letOff_14 rfl (Nat.le_refl _) (Nat.le_refl _) ?_
  have e : (rX6_letOff_29 p bo) = andN bo (2 ^ p) := by rw [rX6_letOff_29]
  rw [e]
  exact ⟨rfl, rfl⟩
def rX6_bury_29 (p : Nat) (bo : Nat) (de : Nat) : Nat × Nat := ((rX6_letOff_29 p bo), de ||| (2 ^ p))
set_option maxRecDepth 100000 in
set_option maxHeartbeats 4000000 in
theorem MX6_bury_29 {w : gW} {al : Bool} {tl rn ki ag co pa me dki dag dco dpa dme nt tnt os og cs mo le se ab : Int32 → Int32} {tn rp wa be pr dso drs dwa dbe dpr nm ns np tnm tnb tnc tnd tns tnp ph kh oh pk pc lf cu cd : Int32} {pf : Nat → Option Nat} {pst kst : Nat → gS} {sz bo cr de sd : Nat} (p : Nat) (hs : sz ≤ 9) (hp : p < 9)  : M w gT0 al mX6_bury 0 0 (hC tl tn rn rp ki ag co pa me (nI sd) (nI sz) wa be pr dki dag dco dpa dme dso drs dwa dbe dpr nt nm (nI bo) (nI cr) (nI de) ns np tnt tnm tnb tnc tnd tns tnp pf ph pst kh kst os og oh cs mo le se pk pc lf ab cu cd) [.ref 29, .int (nI p)] (gEq (hC tl tn rn rp ki ag co pa me (nI sd) (nI sz) wa be pr dki dag dco dpa dme dso drs dwa dbe dpr nt nm (nI ((rX6_bury_29 p bo de).1)) (nI cr) (nI ((rX6_bury_29 p bo de).2)) ns np tnt tnm tnb tnc tnd tns tnp pf ph pst kh kst os og oh cs mo le se pk pc lf ab cu cd) none) := by
  refine M.of (L0 := [.ref 29, .int (nI p)]) (by decide +kernel) (Nat.le_of_ble_eq_true rfl) rfl ?_
  refine g_aload_n dX6_bury_0 rfl 1 rfl rfl ?_
  refine g_iload_n dX6_bury_1 rfl 2 rfl rfl ?_
  refine g_cV0 (as := [.int (nI p)]) (st := []) dX6_bury_2 5 rfl kX6_116 ⟨Nat.le_of_ble_eq_true rfl, Nat.le_of_ble_eq_true rfl⟩ (MX6_letOff_29 (sz := sz) (bo := bo) (cr := cr) (de := de) (sd := sd) p (by omega) (by omega)) rfl rfl rfl rfl (Nat.le_of_ble_eq_true rfl) (Nat.le_refl _) (Nat.le_refl _) ?_
  refine g_aload_n dX6_bury_5 rfl 6 rfl rfl ?_
  refine g_dup dX6_bury_6 7 rfl rfl ?_
  refine g_get (v := .int (nI de)) dX6_bury_7 10 rfl lX6_37 rfl rfl ?_
  refine g_iconst 1 dX6_bury_10 11 rfl (by decide) ?_
  refine g_iload_n dX6_bury_11 rfl 12 rfl rfl ?_
  refine g_ishl' dX6_bury_12 13 rfl (nI (2 ^ p)) (z_1shl (by omega)) ?_
  refine g_ior' dX6_bury_13 14 rfl (nI (de ||| (2 ^ p))) (z_or _ _) ?_
  refine g_put dX6_bury_14 17 rfl lX6_37 wrX6 rfl rfl rfl rfl rfl (Nat.le_of_ble_eq_true rfl) (h' := (hC tl tn rn rp ki ag co pa me (nI sd) (nI sz) wa be pr dki dag dco dpa dme dso drs dwa dbe dpr nt nm (nI (rX6_letOff_29 p bo)) (nI cr) (nI (de ||| (2 ^ p))) ns np tnt tnm tnb tnc tnd tns tnp pf ph pst kh kst os og oh cs mo le se pk pc lf ab cu cd)) rfl ?_
  refine g_return dX6_bury_17 rfl (Nat.le_refl _) (Nat.le_refl _) ?_
  have e : (rX6_bury_29 p bo de) = ((rX6_letOff_29 p bo), de ||| (2 ^ p)) := by rw [rX6_bury_29]
  rw [e]
  exact ⟨rfl, rfl⟩
set_option maxRecDepth 100000 in
set_option maxHeartbeats 4000000 in
theorem MX6_bury_32 {w : gW} {al : Bool} {tl rn ki ag co pa me dki dag dco dpa dme nt tnt os og cs mo le se ab : Int32 → Int32} {tn rp wa be pr dso drs dwa dbe dpr nm nb nc nd ns np tnm tns tnp ph kh oh pk pc lf cu cd : Int32} {pf : Nat → Option Nat} {pst kst : Nat → gS} {sz bo cr de sd : Nat} (p : Nat) (hs : sz ≤ 9) (hp : p < 9)  : M w gT0 al mX6_bury 0 0 (hC tl tn rn rp ki ag co pa me (nI sd) (nI sz) wa be pr dki dag dco dpa dme dso drs dwa dbe dpr nt nm nb nc nd ns np tnt tnm (nI bo) (nI cr) (nI de) tns tnp pf ph pst kh kst os og oh cs mo le se pk pc lf ab cu cd) [.ref 32, .int (nI p)] (gEq (hC tl tn rn rp ki ag co pa me (nI sd) (nI sz) wa be pr dki dag dco dpa dme dso drs dwa dbe dpr nt nm nb nc nd ns np tnt tnm (nI ((rX6_bury_29 p bo de).1)) (nI cr) (nI ((rX6_bury_29 p bo de).2)) tns tnp pf ph pst kh kst os og oh cs mo le se pk pc lf ab cu cd) none) := by
  refine M.of (L0 := [.ref 32, .int (nI p)]) (by decide +kernel) (Nat.le_of_ble_eq_true rfl) rfl ?_
  refine g_aload_n dX6_bury_0 rfl 1 rfl rfl ?_
  refine g_iload_n dX6_bury_1 rfl 2 rfl rfl ?_
  refine g_cV0 (as := [.int (nI p)]) (st := []) dX6_bury_2 5 rfl kX6_116 ⟨Nat.le_of_ble_eq_true rfl, Nat.le_of_ble_eq_true rfl⟩ (MX6_letOff_32 (sz := sz) (bo := bo) (cr := cr) (de := de) (sd := sd) p (by omega) (by omega)) rfl rfl rfl rfl (Nat.le_of_ble_eq_true rfl) (Nat.le_refl _) (Nat.le_refl _) ?_
  refine g_aload_n dX6_bury_5 rfl 6 rfl rfl ?_
  refine g_dup dX6_bury_6 7 rfl rfl ?_
  refine g_get (v := .int (nI de)) dX6_bury_7 10 rfl lX6_37 rfl rfl ?_
  refine g_iconst 1 dX6_bury_10 11 rfl (by decide) ?_
  refine g_iload_n dX6_bury_11 rfl 12 rfl rfl ?_
  refine g_ishl' dX6_bury_12 13 rfl (nI (2 ^ p)) (z_1shl (by omega)) ?_
  refine g_ior' dX6_bury_13 14 rfl (nI (de ||| (2 ^ p))) (z_or _ _) ?_
  refine g_put dX6_bury_14 17 rfl lX6_37 wrX6 rfl rfl rfl rfl rfl (Nat.le_of_ble_eq_true rfl) (h' := (hC tl tn rn rp ki ag co pa me (nI sd) (nI sz) wa be pr dki dag dco dpa dme dso drs dwa dbe dpr nt nm nb nc nd ns np tnt tnm (nI (rX6_letOff_29 p bo)) (nI cr) (nI (de ||| (2 ^ p))) tns tnp pf ph pst kh kst os og oh cs mo le se pk pc lf ab cu cd)) rfl ?_
  refine g_return dX6_bury_17 rfl (Nat.le_refl _) (Nat.le_refl _) ?_
  have e : (rX6_bury_29 p bo de) = ((rX6_letOff_29 p bo), de ||| (2 ^ p)) := by rw [rX6_bury_29]
  rw [e]
  exact ⟨rfl, rfl⟩
def fX6_depart_2_29 (ki : Int32 → Int32) (bo : Nat) : Nat → ((Int32 → Int32) × Nat) → ((Int32 → Int32) × Nat)
  | i, (nt, u1) => (if (bo.testBit i) = true then (if (ki (nI i)) = 2 then ((gup nt (nI i) ((nt (nI i)) + 1)), (u1 ||| 0)) else ((gup nt (nI i) ((nt (nI i)) + 1)), (u1 ||| (2 ^ i)))) else (nt, u1))
set_option maxRecDepth 100000 in
set_option maxHeartbeats 4000000 in
theorem LX6_depart_2_29 {w : gW} {al : Bool} {tl rn ki ag co pa me dki dag dco dpa dme tnt os og cs mo le se ab : Int32 → Int32} {tn rp wa be pr dso drs dwa dbe dpr nm ns np tnm tnb tnc tnd tns tnp ph kh oh pk pc lf cu cd : Int32} {pf : Nat → Option Nat} {pst kst : Nat → gS} {n : Nat} {P : gP} {sz bo de sd : Nat} {coins : Int32} (hs : sz ≤ 9) (hbo : bo < 512)  : ∀ (d i : Nat) (nt : Int32 → Int32) (u1 : Nat), i + d = sz → G w gT0 al n mX6_depart 0 0 P 0 0 (hC tl tn rn rp ki ag co pa me (nI sd) (nI sz) wa be pr dki dag dco dpa dme dso drs dwa dbe dpr ((gLp (fX6_depart_2_29 ki bo) d i (nt, u1)).1) nm (nI bo) (nI ((gLp (fX6_depart_2_29 ki bo) d i (nt, u1)).2)) (nI de) ns np tnt tnm tnb tnc tnd tns tnp pf ph pst kh kst os og oh cs mo le se pk pc lf ab cu cd) 79 [.ref 29, .int coins, .int (nI sz)] [] → G w gT0 al n mX6_depart 0 0 P 0 0 (hC tl tn rn rp ki ag co pa me (nI sd) (nI sz) wa be pr dki dag dco dpa dme dso drs dwa dbe dpr nt nm (nI bo) (nI u1) (nI de) ns np tnt tnm tnb tnc tnd tns tnp pf ph pst kh kst os og oh cs mo le se pk pc lf ab cu cd) 2 [.ref 29, .int coins, .int (nI i)] [] := by
  intro d
  induction d with
  | zero =>
    intro i nt u1 hi k
    have hN : i = sz := by omega
    rw [hN]
    rw [hN] at k
    refine g_iload_n dX6_depart_2 rfl 3 rfl rfl ?_
    refine g_aload_n dX6_depart_3 rfl 4 rfl rfl ?_
    refine g_get (v := .ref 7) dX6_depart_4 7 rfl lX6_20 rfl rfl ?_
    refine g_get (v := .int (nI sz)) dX6_depart_7 10 rfl lX6_60 rfl rfl ?_
    refine g_icmp_ge dX6_depart_10 79 rfl 13 rfl (fun _ => ?_) (fun c => absurd (nI_le (Nat.le_refl _) (by omega)) c)
    exact k
  | succ d ih =>
    intro i nt u1 hi k
    refine g_iload_n dX6_depart_2 rfl 3 rfl rfl ?_
    refine g_aload_n dX6_depart_3 rfl 4 rfl rfl ?_
    refine g_get (v := .ref 7) dX6_depart_4 7 rfl lX6_20 rfl rfl ?_
    refine g_get (v := .int (nI sz)) dX6_depart_7 10 rfl lX6_60 rfl rfl ?_
    refine g_icmp_ge dX6_depart_10 79 rfl 13 rfl (fun c => absurd c (nI_ge (by omega) (by omega))) (fun _ => ?_)
    refine g_aload_n dX6_depart_13 rfl 14 rfl rfl ?_
    refine g_get (v := .int (nI bo)) dX6_depart_14 17 rfl lX6_31 rfl rfl ?_
    refine g_iload_n dX6_depart_17 rfl 18 rfl rfl ?_
    refine g_cSNv (as := [.int (nI bo), .int (nI i)]) (st := []) dX6_depart_18 21 rfl kX6_69 ⟨Nat.le_of_ble_eq_true rfl, Nat.le_of_ble_eq_true rfl⟩ (MX9_has bo i (by omega) (by omega)) rfl (Nat.le_of_ble_eq_true rfl) (Nat.le_refl _) (Nat.le_refl _) ?_
    refine g_if_eq dX6_depart_21 73 rfl 24 rfl (fun c1 => ?_) (fun c1 => ?_)
    · replace c1 := gB_f c1
      refine g_iinc2 dX6_depart_73 76 rfl 1 (by decide) (nI (i + 1)) (nI_add _ 1) (by decide) rfl ?_
      refine g_goto dX6_depart_76 2 rfl ?_
      have e : (fX6_depart_2_29 ki bo) i (nt, u1) = (nt, u1) := by rw [fX6_depart_2_29, if_neg c1]
      refine ih (i + 1) nt u1 (by omega) ?_
      rw [← e]
      exact k
    · replace c1 := gB_t c1
      refine g_aload_n dX6_depart_24 rfl 25 rfl rfl ?_
      refine g_get (v := .ref 30) dX6_depart_25 28 rfl lX6_14 rfl rfl ?_
      refine g_iload_n dX6_depart_28 rfl 29 rfl rfl ?_
      refine g_aload_n dX6_depart_29 rfl 30 rfl rfl ?_
      refine g_get (v := .ref 30) dX6_depart_30 33 rfl lX6_14 rfl rfl ?_
      refine g_iload_n dX6_depart_33 rfl 34 rfl rfl ?_
      refine g_cVv (as := [.int (nI i)]) (st := [.int (nI i), .ref 30]) dX6_depart_34 37 rfl kX6_46 ⟨Nat.le_of_ble_eq_true rfl, Nat.le_of_ble_eq_true rfl⟩ (MX3_atN (k := 30) (j := 31) (N := 9) (f := nt) rfl rfl (by decide) i (by omega)) rfl rfl rfl rfl (Nat.le_of_ble_eq_true rfl) (Nat.le_refl _) (Nat.le_refl _) ?_
      refine g_iconst 1 dX6_depart_37 38 rfl (by decide) ?_
      refine g_iadd dX6_depart_38 39 rfl ?_
      refine g_cV0 (as := [.int (nI i), .int ((nt (nI i)) + 1)]) (st := []) dX6_depart_39 42 rfl kX6_50 ⟨Nat.le_of_ble_eq_true rfl, Nat.le_of_ble_eq_true rfl⟩ (MX3_putN (k := 30) (j := 31) (N := 9) (f := nt) rfl rfl (by decide) i (by omega) ((nt (nI i)) + 1) (h' := (hC tl tn rn rp ki ag co pa me (nI sd) (nI sz) wa be pr dki dag dco dpa dme dso drs dwa dbe dpr (gup nt (nI i) ((nt (nI i)) + 1)) nm (nI bo) (nI u1) (nI de) ns np tnt tnm tnb tnc tnd tns tnp pf ph pst kh kst os og oh cs mo le se pk pc lf ab cu cd)) rfl) rfl rfl rfl rfl (Nat.le_of_ble_eq_true rfl) (Nat.le_refl _) (Nat.le_refl _) ?_
      refine g_aload_n dX6_depart_42 rfl 43 rfl rfl ?_
      refine g_dup dX6_depart_43 44 rfl rfl ?_
      refine g_get (v := .int (nI u1)) dX6_depart_44 47 rfl lX6_34 rfl rfl ?_
      refine g_aload_n dX6_depart_47 rfl 48 rfl rfl ?_
      refine g_get (v := .ref 7) dX6_depart_48 51 rfl lX6_20 rfl rfl ?_
      refine g_get (v := .ref 8) dX6_depart_51 54 rfl lX6_88 rfl rfl ?_
      refine g_iload_n dX6_depart_54 rfl 55 rfl rfl ?_
      refine g_cVv (as := [.int (nI i)]) (st := [.int (nI u1), .ref 29]) dX6_depart_55 58 rfl kX6_46 ⟨Nat.le_of_ble_eq_true rfl, Nat.le_of_ble_eq_true rfl⟩ (MX3_atN (k := 8) (j := 9) (N := 9) (f := ki) rfl rfl (by decide) i (by omega)) rfl rfl rfl rfl (Nat.le_of_ble_eq_true rfl) (Nat.le_refl _) (Nat.le_refl _) ?_
      refine g_iconst 2 dX6_depart_58 59 rfl (by decide) ?_
      refine g_icmp_ne dX6_depart_59 66 rfl 62 rfl (fun c2 => ?_) (fun c2 => ?_)
      · refine g_iconst 1 dX6_depart_66 67 rfl (by decide) ?_
        refine g_iload_n dX6_depart_67 rfl 68 rfl rfl ?_
        refine g_ishl' dX6_depart_68 69 rfl (nI (2 ^ i)) (z_1shl (by omega)) ?_
        refine g_ior' dX6_depart_69 70 rfl (nI (u1 ||| (2 ^ i))) (z_or _ _) ?_
        refine g_put dX6_depart_70 73 rfl lX6_34 wrX6 rfl rfl rfl rfl rfl (Nat.le_of_ble_eq_true rfl) (h' := (hC tl tn rn rp ki ag co pa me (nI sd) (nI sz) wa be pr dki dag dco dpa dme dso drs dwa dbe dpr (gup nt (nI i) ((nt (nI i)) + 1)) nm (nI bo) (nI (u1 ||| (2 ^ i))) (nI de) ns np tnt tnm tnb tnc tnd tns tnp pf ph pst kh kst os og oh cs mo le se pk pc lf ab cu cd)) rfl ?_
        refine g_iinc2 dX6_depart_73 76 rfl 1 (by decide) (nI (i + 1)) (nI_add _ 1) (by decide) rfl ?_
        refine g_goto dX6_depart_76 2 rfl ?_
        have e : (fX6_depart_2_29 ki bo) i (nt, u1) = ((gup nt (nI i) ((nt (nI i)) + 1)), (u1 ||| (2 ^ i))) := by rw [fX6_depart_2_29, if_pos c1, if_neg c2]
        refine ih (i + 1) (gup nt (nI i) ((nt (nI i)) + 1)) (u1 ||| (2 ^ i)) (by omega) ?_
        rw [← e]
        exact k
      · refine g_iconst 0 dX6_depart_62 63 rfl (by decide) ?_
        refine g_goto dX6_depart_63 69 rfl ?_
        refine g_ior' dX6_depart_69 70 rfl (nI (u1 ||| 0)) (z_or _ 0) ?_
        refine g_put dX6_depart_70 73 rfl lX6_34 wrX6 rfl rfl rfl rfl rfl (Nat.le_of_ble_eq_true rfl) (h' := (hC tl tn rn rp ki ag co pa me (nI sd) (nI sz) wa be pr dki dag dco dpa dme dso drs dwa dbe dpr (gup nt (nI i) ((nt (nI i)) + 1)) nm (nI bo) (nI (u1 ||| 0)) (nI de) ns np tnt tnm tnb tnc tnd tns tnp pf ph pst kh kst os og oh cs mo le se pk pc lf ab cu cd)) rfl ?_
        refine g_iinc2 dX6_depart_73 76 rfl 1 (by decide) (nI (i + 1)) (nI_add _ 1) (by decide) rfl ?_
        refine g_goto dX6_depart_76 2 rfl ?_
        have e : (fX6_depart_2_29 ki bo) i (nt, u1) = ((gup nt (nI i) ((nt (nI i)) + 1)), (u1 ||| 0)) := by rw [fX6_depart_2_29, if_pos c1, if_pos c2]
        refine ih (i + 1) (gup nt (nI i) ((nt (nI i)) + 1)) (u1 ||| 0) (by omega) ?_
        rw [← e]
        exact k
def rX6_depart_29 (ki : Int32 → Int32) (nt : Int32 → Int32) (ns : Int32) (np : Int32) (coins : Int32) (sz : Nat) (bo : Nat) (cr : Nat) : (Int32 → Int32) × Nat × Nat × Int32 × Int32 := (((gLp (fX6_depart_2_29 ki bo) sz 0 (nt, cr)).1), 0, (gLp (fX6_depart_2_29 ki bo) sz 0 (nt, cr)).2, (ns + 1), (np + coins))
set_option maxRecDepth 100000 in
set_option maxHeartbeats 4000000 in
theorem MX6_depart_29 {w : gW} {al : Bool} {tl rn ki ag co pa me dki dag dco dpa dme nt tnt os og cs mo le se ab : Int32 → Int32} {tn rp wa be pr dso drs dwa dbe dpr nm ns np tnm tnb tnc tnd tns tnp ph kh oh pk pc lf cu cd : Int32} {pf : Nat → Option Nat} {pst kst : Nat → gS} {sz bo cr de sd : Nat} (coins : Int32) (hs : sz ≤ 9) (hbo : bo < 512)  : M w gT0 al mX6_depart 0 0 (hC tl tn rn rp ki ag co pa me (nI sd) (nI sz) wa be pr dki dag dco dpa dme dso drs dwa dbe dpr nt nm (nI bo) (nI cr) (nI de) ns np tnt tnm tnb tnc tnd tns tnp pf ph pst kh kst os og oh cs mo le se pk pc lf ab cu cd) [.ref 29, .int coins] (gEq (hC tl tn rn rp ki ag co pa me (nI sd) (nI sz) wa be pr dki dag dco dpa dme dso drs dwa dbe dpr ((rX6_depart_29 ki nt ns np coins sz bo cr).1) nm (nI ((rX6_depart_29 ki nt ns np coins sz bo cr).2.1)) (nI ((rX6_depart_29 ki nt ns np coins sz bo cr).2.2.1)) (nI de) ((rX6_depart_29 ki nt ns np coins sz bo cr).2.2.2.1) ((rX6_depart_29 ki nt ns np coins sz bo cr).2.2.2.2) tnt tnm tnb tnc tnd tns tnp pf ph pst kh kst os og oh cs mo le se pk pc lf ab cu cd) none) := by
  refine M.of (L0 := [.ref 29, .int coins, gF]) (by decide +kernel) (Nat.le_of_ble_eq_true rfl) rfl ?_
  refine g_iconst 0 dX6_depart_0 1 rfl (by decide) ?_
  refine g_istore2 dX6_depart_1 2 rfl (by decide) rfl ?_
  refine LX6_depart_2_29  (by omega) (by omega) sz 0 nt cr (by omega) ?_
  refine g_aload_n dX6_depart_79 rfl 80 rfl rfl ?_
  refine g_iconst 0 dX6_depart_80 81 rfl (by decide) ?_
  refine g_put dX6_depart_81 84 rfl lX6_31 wrX6 rfl rfl rfl rfl rfl (Nat.le_of_ble_eq_true rfl) (h' := (hC tl tn rn rp ki ag co pa me (nI sd) (nI sz) wa be pr dki dag dco dpa dme dso drs dwa dbe dpr ((gLp (fX6_depart_2_29 ki bo) sz 0 (nt, cr)).1) nm 0 (nI ((gLp (fX6_depart_2_29 ki bo) sz 0 (nt, cr)).2)) (nI de) ns np tnt tnm tnb tnc tnd tns tnp pf ph pst kh kst os og oh cs mo le se pk pc lf ab cu cd)) rfl ?_
  refine g_aload_n dX6_depart_84 rfl 85 rfl rfl ?_
  refine g_dup dX6_depart_85 86 rfl rfl ?_
  refine g_get (v := .int ns) dX6_depart_86 89 rfl lX6_40 rfl rfl ?_
  refine g_iconst 1 dX6_depart_89 90 rfl (by decide) ?_
  refine g_iadd dX6_depart_90 91 rfl ?_
  refine g_put dX6_depart_91 94 rfl lX6_40 wrX6 rfl rfl rfl rfl rfl (Nat.le_of_ble_eq_true rfl) (h' := (hC tl tn rn rp ki ag co pa me (nI sd) (nI sz) wa be pr dki dag dco dpa dme dso drs dwa dbe dpr ((gLp (fX6_depart_2_29 ki bo) sz 0 (nt, cr)).1) nm 0 (nI ((gLp (fX6_depart_2_29 ki bo) sz 0 (nt, cr)).2)) (nI de) (ns + 1) np tnt tnm tnb tnc tnd tns tnp pf ph pst kh kst os og oh cs mo le se pk pc lf ab cu cd)) rfl ?_
  refine g_aload_n dX6_depart_94 rfl 95 rfl rfl ?_
  refine g_dup dX6_depart_95 96 rfl rfl ?_
  refine g_get (v := .int np) dX6_depart_96 99 rfl lX6_43 rfl rfl ?_
  refine g_iload_n dX6_depart_99 rfl 100 rfl rfl ?_
  refine g_iadd dX6_depart_100 101 rfl ?_
  refine g_put dX6_depart_101 104 rfl lX6_43 wrX6 rfl rfl rfl rfl rfl (Nat.le_of_ble_eq_true rfl) (h' := (hC tl tn rn rp ki ag co pa me (nI sd) (nI sz) wa be pr dki dag dco dpa dme dso drs dwa dbe dpr ((gLp (fX6_depart_2_29 ki bo) sz 0 (nt, cr)).1) nm 0 (nI ((gLp (fX6_depart_2_29 ki bo) sz 0 (nt, cr)).2)) (nI de) (ns + 1) (np + coins) tnt tnm tnb tnc tnd tns tnp pf ph pst kh kst os og oh cs mo le se pk pc lf ab cu cd)) rfl ?_
  refine g_return dX6_depart_104 rfl (Nat.le_refl _) (Nat.le_refl _) ?_
  have e : (rX6_depart_29 ki nt ns np coins sz bo cr) = (((gLp (fX6_depart_2_29 ki bo) sz 0 (nt, cr)).1), 0, (gLp (fX6_depart_2_29 ki bo) sz 0 (nt, cr)).2, (ns + 1), (np + coins)) := by rw [rX6_depart_29]
  rw [e]
  exact ⟨rfl, rfl⟩
set_option maxRecDepth 100000 in
set_option maxHeartbeats 4000000 in
theorem LX6_depart_2_32 {w : gW} {al : Bool} {tl rn ki ag co pa me dki dag dco dpa dme nt os og cs mo le se ab : Int32 → Int32} {tn rp wa be pr dso drs dwa dbe dpr nm nb nc nd ns np tnm tns tnp ph kh oh pk pc lf cu cd : Int32} {pf : Nat → Option Nat} {pst kst : Nat → gS} {n : Nat} {P : gP} {sz bo de sd : Nat} {coins : Int32} (hs : sz ≤ 9) (hbo : bo < 512)  : ∀ (d i : Nat) (tnt : Int32 → Int32) (u1 : Nat), i + d = sz → G w gT0 al n mX6_depart 0 0 P 0 0 (hC tl tn rn rp ki ag co pa me (nI sd) (nI sz) wa be pr dki dag dco dpa dme dso drs dwa dbe dpr nt nm nb nc nd ns np ((gLp (fX6_depart_2_29 ki bo) d i (tnt, u1)).1) tnm (nI bo) (nI ((gLp (fX6_depart_2_29 ki bo) d i (tnt, u1)).2)) (nI de) tns tnp pf ph pst kh kst os og oh cs mo le se pk pc lf ab cu cd) 79 [.ref 32, .int coins, .int (nI sz)] [] → G w gT0 al n mX6_depart 0 0 P 0 0 (hC tl tn rn rp ki ag co pa me (nI sd) (nI sz) wa be pr dki dag dco dpa dme dso drs dwa dbe dpr nt nm nb nc nd ns np tnt tnm (nI bo) (nI u1) (nI de) tns tnp pf ph pst kh kst os og oh cs mo le se pk pc lf ab cu cd) 2 [.ref 32, .int coins, .int (nI i)] [] := by
  intro d
  induction d with
  | zero =>
    intro i tnt u1 hi k
    have hN : i = sz := by omega
    rw [hN]
    rw [hN] at k
    refine g_iload_n dX6_depart_2 rfl 3 rfl rfl ?_
    refine g_aload_n dX6_depart_3 rfl 4 rfl rfl ?_
    refine g_get (v := .ref 7) dX6_depart_4 7 rfl lX6_20 rfl rfl ?_
    refine g_get (v := .int (nI sz)) dX6_depart_7 10 rfl lX6_60 rfl rfl ?_
    refine g_icmp_ge dX6_depart_10 79 rfl 13 rfl (fun _ => ?_) (fun c => absurd (nI_le (Nat.le_refl _) (by omega)) c)
    exact k
  | succ d ih =>
    intro i tnt u1 hi k
    refine g_iload_n dX6_depart_2 rfl 3 rfl rfl ?_
    refine g_aload_n dX6_depart_3 rfl 4 rfl rfl ?_
    refine g_get (v := .ref 7) dX6_depart_4 7 rfl lX6_20 rfl rfl ?_
    refine g_get (v := .int (nI sz)) dX6_depart_7 10 rfl lX6_60 rfl rfl ?_
    refine g_icmp_ge dX6_depart_10 79 rfl 13 rfl (fun c => absurd c (nI_ge (by omega) (by omega))) (fun _ => ?_)
    refine g_aload_n dX6_depart_13 rfl 14 rfl rfl ?_
    refine g_get (v := .int (nI bo)) dX6_depart_14 17 rfl lX6_31 rfl rfl ?_
    refine g_iload_n dX6_depart_17 rfl 18 rfl rfl ?_
    refine g_cSNv (as := [.int (nI bo), .int (nI i)]) (st := []) dX6_depart_18 21 rfl kX6_69 ⟨Nat.le_of_ble_eq_true rfl, Nat.le_of_ble_eq_true rfl⟩ (MX9_has bo i (by omega) (by omega)) rfl (Nat.le_of_ble_eq_true rfl) (Nat.le_refl _) (Nat.le_refl _) ?_
    refine g_if_eq dX6_depart_21 73 rfl 24 rfl (fun c1 => ?_) (fun c1 => ?_)
    · replace c1 := gB_f c1
      refine g_iinc2 dX6_depart_73 76 rfl 1 (by decide) (nI (i + 1)) (nI_add _ 1) (by decide) rfl ?_
      refine g_goto dX6_depart_76 2 rfl ?_
      have e : (fX6_depart_2_29 ki bo) i (tnt, u1) = (tnt, u1) := by rw [fX6_depart_2_29, if_neg c1]
      refine ih (i + 1) tnt u1 (by omega) ?_
      rw [← e]
      exact k
    · replace c1 := gB_t c1
      refine g_aload_n dX6_depart_24 rfl 25 rfl rfl ?_
      refine g_get (v := .ref 33) dX6_depart_25 28 rfl lX6_14 rfl rfl ?_
      refine g_iload_n dX6_depart_28 rfl 29 rfl rfl ?_
      refine g_aload_n dX6_depart_29 rfl 30 rfl rfl ?_
      refine g_get (v := .ref 33) dX6_depart_30 33 rfl lX6_14 rfl rfl ?_
      refine g_iload_n dX6_depart_33 rfl 34 rfl rfl ?_
      refine g_cVv (as := [.int (nI i)]) (st := [.int (nI i), .ref 33]) dX6_depart_34 37 rfl kX6_46 ⟨Nat.le_of_ble_eq_true rfl, Nat.le_of_ble_eq_true rfl⟩ (MX3_atN (k := 33) (j := 34) (N := 9) (f := tnt) rfl rfl (by decide) i (by omega)) rfl rfl rfl rfl (Nat.le_of_ble_eq_true rfl) (Nat.le_refl _) (Nat.le_refl _) ?_
      refine g_iconst 1 dX6_depart_37 38 rfl (by decide) ?_
      refine g_iadd dX6_depart_38 39 rfl ?_
      refine g_cV0 (as := [.int (nI i), .int ((tnt (nI i)) + 1)]) (st := []) dX6_depart_39 42 rfl kX6_50 ⟨Nat.le_of_ble_eq_true rfl, Nat.le_of_ble_eq_true rfl⟩ (MX3_putN (k := 33) (j := 34) (N := 9) (f := tnt) rfl rfl (by decide) i (by omega) ((tnt (nI i)) + 1) (h' := (hC tl tn rn rp ki ag co pa me (nI sd) (nI sz) wa be pr dki dag dco dpa dme dso drs dwa dbe dpr nt nm nb nc nd ns np (gup tnt (nI i) ((tnt (nI i)) + 1)) tnm (nI bo) (nI u1) (nI de) tns tnp pf ph pst kh kst os og oh cs mo le se pk pc lf ab cu cd)) rfl) rfl rfl rfl rfl (Nat.le_of_ble_eq_true rfl) (Nat.le_refl _) (Nat.le_refl _) ?_
      refine g_aload_n dX6_depart_42 rfl 43 rfl rfl ?_
      refine g_dup dX6_depart_43 44 rfl rfl ?_
      refine g_get (v := .int (nI u1)) dX6_depart_44 47 rfl lX6_34 rfl rfl ?_
      refine g_aload_n dX6_depart_47 rfl 48 rfl rfl ?_
      refine g_get (v := .ref 7) dX6_depart_48 51 rfl lX6_20 rfl rfl ?_
      refine g_get (v := .ref 8) dX6_depart_51 54 rfl lX6_88 rfl rfl ?_
      refine g_iload_n dX6_depart_54 rfl 55 rfl rfl ?_
      refine g_cVv (as := [.int (nI i)]) (st := [.int (nI u1), .ref 32]) dX6_depart_55 58 rfl kX6_46 ⟨Nat.le_of_ble_eq_true rfl, Nat.le_of_ble_eq_true rfl⟩ (MX3_atN (k := 8) (j := 9) (N := 9) (f := ki) rfl rfl (by decide) i (by omega)) rfl rfl rfl rfl (Nat.le_of_ble_eq_true rfl) (Nat.le_refl _) (Nat.le_refl _) ?_
      refine g_iconst 2 dX6_depart_58 59 rfl (by decide) ?_
      refine g_icmp_ne dX6_depart_59 66 rfl 62 rfl (fun c2 => ?_) (fun c2 => ?_)
      · refine g_iconst 1 dX6_depart_66 67 rfl (by decide) ?_
        refine g_iload_n dX6_depart_67 rfl 68 rfl rfl ?_
        refine g_ishl' dX6_depart_68 69 rfl (nI (2 ^ i)) (z_1shl (by omega)) ?_
        refine g_ior' dX6_depart_69 70 rfl (nI (u1 ||| (2 ^ i))) (z_or _ _) ?_
        refine g_put dX6_depart_70 73 rfl lX6_34 wrX6 rfl rfl rfl rfl rfl (Nat.le_of_ble_eq_true rfl) (h' := (hC tl tn rn rp ki ag co pa me (nI sd) (nI sz) wa be pr dki dag dco dpa dme dso drs dwa dbe dpr nt nm nb nc nd ns np (gup tnt (nI i) ((tnt (nI i)) + 1)) tnm (nI bo) (nI (u1 ||| (2 ^ i))) (nI de) tns tnp pf ph pst kh kst os og oh cs mo le se pk pc lf ab cu cd)) rfl ?_
        refine g_iinc2 dX6_depart_73 76 rfl 1 (by decide) (nI (i + 1)) (nI_add _ 1) (by decide) rfl ?_
        refine g_goto dX6_depart_76 2 rfl ?_
        have e : (fX6_depart_2_29 ki bo) i (tnt, u1) = ((gup tnt (nI i) ((tnt (nI i)) + 1)), (u1 ||| (2 ^ i))) := by rw [fX6_depart_2_29, if_pos c1, if_neg c2]
        refine ih (i + 1) (gup tnt (nI i) ((tnt (nI i)) + 1)) (u1 ||| (2 ^ i)) (by omega) ?_
        rw [← e]
        exact k
      · refine g_iconst 0 dX6_depart_62 63 rfl (by decide) ?_
        refine g_goto dX6_depart_63 69 rfl ?_
        refine g_ior' dX6_depart_69 70 rfl (nI (u1 ||| 0)) (z_or _ 0) ?_
        refine g_put dX6_depart_70 73 rfl lX6_34 wrX6 rfl rfl rfl rfl rfl (Nat.le_of_ble_eq_true rfl) (h' := (hC tl tn rn rp ki ag co pa me (nI sd) (nI sz) wa be pr dki dag dco dpa dme dso drs dwa dbe dpr nt nm nb nc nd ns np (gup tnt (nI i) ((tnt (nI i)) + 1)) tnm (nI bo) (nI (u1 ||| 0)) (nI de) tns tnp pf ph pst kh kst os og oh cs mo le se pk pc lf ab cu cd)) rfl ?_
        refine g_iinc2 dX6_depart_73 76 rfl 1 (by decide) (nI (i + 1)) (nI_add _ 1) (by decide) rfl ?_
        refine g_goto dX6_depart_76 2 rfl ?_
        have e : (fX6_depart_2_29 ki bo) i (tnt, u1) = ((gup tnt (nI i) ((tnt (nI i)) + 1)), (u1 ||| 0)) := by rw [fX6_depart_2_29, if_pos c1, if_pos c2]
        refine ih (i + 1) (gup tnt (nI i) ((tnt (nI i)) + 1)) (u1 ||| 0) (by omega) ?_
        rw [← e]
        exact k
set_option maxRecDepth 100000 in
set_option maxHeartbeats 4000000 in
theorem MX6_depart_32 {w : gW} {al : Bool} {tl rn ki ag co pa me dki dag dco dpa dme nt tnt os og cs mo le se ab : Int32 → Int32} {tn rp wa be pr dso drs dwa dbe dpr nm nb nc nd ns np tnm tns tnp ph kh oh pk pc lf cu cd : Int32} {pf : Nat → Option Nat} {pst kst : Nat → gS} {sz bo cr de sd : Nat} (coins : Int32) (hs : sz ≤ 9) (hbo : bo < 512)  : M w gT0 al mX6_depart 0 0 (hC tl tn rn rp ki ag co pa me (nI sd) (nI sz) wa be pr dki dag dco dpa dme dso drs dwa dbe dpr nt nm nb nc nd ns np tnt tnm (nI bo) (nI cr) (nI de) tns tnp pf ph pst kh kst os og oh cs mo le se pk pc lf ab cu cd) [.ref 32, .int coins] (gEq (hC tl tn rn rp ki ag co pa me (nI sd) (nI sz) wa be pr dki dag dco dpa dme dso drs dwa dbe dpr nt nm nb nc nd ns np ((rX6_depart_29 ki tnt tns tnp coins sz bo cr).1) tnm (nI ((rX6_depart_29 ki tnt tns tnp coins sz bo cr).2.1)) (nI ((rX6_depart_29 ki tnt tns tnp coins sz bo cr).2.2.1)) (nI de) ((rX6_depart_29 ki tnt tns tnp coins sz bo cr).2.2.2.1) ((rX6_depart_29 ki tnt tns tnp coins sz bo cr).2.2.2.2) pf ph pst kh kst os og oh cs mo le se pk pc lf ab cu cd) none) := by
  refine M.of (L0 := [.ref 32, .int coins, gF]) (by decide +kernel) (Nat.le_of_ble_eq_true rfl) rfl ?_
  refine g_iconst 0 dX6_depart_0 1 rfl (by decide) ?_
  refine g_istore2 dX6_depart_1 2 rfl (by decide) rfl ?_
  refine LX6_depart_2_32  (by omega) (by omega) sz 0 tnt cr (by omega) ?_
  refine g_aload_n dX6_depart_79 rfl 80 rfl rfl ?_
  refine g_iconst 0 dX6_depart_80 81 rfl (by decide) ?_
  refine g_put dX6_depart_81 84 rfl lX6_31 wrX6 rfl rfl rfl rfl rfl (Nat.le_of_ble_eq_true rfl) (h' := (hC tl tn rn rp ki ag co pa me (nI sd) (nI sz) wa be pr dki dag dco dpa dme dso drs dwa dbe dpr nt nm nb nc nd ns np ((gLp (fX6_depart_2_29 ki bo) sz 0 (tnt, cr)).1) tnm 0 (nI ((gLp (fX6_depart_2_29 ki bo) sz 0 (tnt, cr)).2)) (nI de) tns tnp pf ph pst kh kst os og oh cs mo le se pk pc lf ab cu cd)) rfl ?_
  refine g_aload_n dX6_depart_84 rfl 85 rfl rfl ?_
  refine g_dup dX6_depart_85 86 rfl rfl ?_
  refine g_get (v := .int tns) dX6_depart_86 89 rfl lX6_40 rfl rfl ?_
  refine g_iconst 1 dX6_depart_89 90 rfl (by decide) ?_
  refine g_iadd dX6_depart_90 91 rfl ?_
  refine g_put dX6_depart_91 94 rfl lX6_40 wrX6 rfl rfl rfl rfl rfl (Nat.le_of_ble_eq_true rfl) (h' := (hC tl tn rn rp ki ag co pa me (nI sd) (nI sz) wa be pr dki dag dco dpa dme dso drs dwa dbe dpr nt nm nb nc nd ns np ((gLp (fX6_depart_2_29 ki bo) sz 0 (tnt, cr)).1) tnm 0 (nI ((gLp (fX6_depart_2_29 ki bo) sz 0 (tnt, cr)).2)) (nI de) (tns + 1) tnp pf ph pst kh kst os og oh cs mo le se pk pc lf ab cu cd)) rfl ?_
  refine g_aload_n dX6_depart_94 rfl 95 rfl rfl ?_
  refine g_dup dX6_depart_95 96 rfl rfl ?_
  refine g_get (v := .int tnp) dX6_depart_96 99 rfl lX6_43 rfl rfl ?_
  refine g_iload_n dX6_depart_99 rfl 100 rfl rfl ?_
  refine g_iadd dX6_depart_100 101 rfl ?_
  refine g_put dX6_depart_101 104 rfl lX6_43 wrX6 rfl rfl rfl rfl rfl (Nat.le_of_ble_eq_true rfl) (h' := (hC tl tn rn rp ki ag co pa me (nI sd) (nI sz) wa be pr dki dag dco dpa dme dso drs dwa dbe dpr nt nm nb nc nd ns np ((gLp (fX6_depart_2_29 ki bo) sz 0 (tnt, cr)).1) tnm 0 (nI ((gLp (fX6_depart_2_29 ki bo) sz 0 (tnt, cr)).2)) (nI de) (tns + 1) (tnp + coins) pf ph pst kh kst os og oh cs mo le se pk pc lf ab cu cd)) rfl ?_
  refine g_return dX6_depart_104 rfl (Nat.le_refl _) (Nat.le_refl _) ?_
  have e : (rX6_depart_29 ki tnt tns tnp coins sz bo cr) = (((gLp (fX6_depart_2_29 ki bo) sz 0 (tnt, cr)).1), 0, (gLp (fX6_depart_2_29 ki bo) sz 0 (tnt, cr)).2, (tns + 1), (tnp + coins)) := by rw [rX6_depart_29]
  rw [e]
  exact ⟨rfl, rfl⟩
def rX6_move_29 (co : Int32 → Int32) (nm : Int32) (p : Nat) (ml : Bool) (bo : Nat) (cr : Nat) (de : Nat) : Nat := (if (rX6_placeOf_29 co nm p bo cr de) = 1 then (rX6_takeOn_29 p bo) else (if (rX6_placeOf_29 co nm p bo cr de) = 2 then (if ml = true then (rX6_letOff_29 p bo) else bo) else bo))
set_option maxRecDepth 100000 in
set_option maxHeartbeats 4000000 in
theorem MX6_move_29 {w : gW} {al : Bool} {tl rn ki ag co pa me dki dag dco dpa dme nt tnt os og cs mo le se ab : Int32 → Int32} {tn rp wa be pr dso drs dwa dbe dpr nm ns np tnm tnb tnc tnd tns tnp ph kh oh pk pc lf cu cd : Int32} {pf : Nat → Option Nat} {pst kst : Nat → gS} {sz bo cr de sd : Nat} (p : Nat) (ml : Bool) (hs : sz ≤ 9) (hbo : bo < 512) (hcr : cr < 512) (hde : de < 512) (hp : p < 9)  : M w gT0 al mX6_move 0 0 (hC tl tn rn rp ki ag co pa me (nI sd) (nI sz) wa be pr dki dag dco dpa dme dso drs dwa dbe dpr nt nm (nI bo) (nI cr) (nI de) ns np tnt tnm tnb tnc tnd tns tnp pf ph pst kh kst os og oh cs mo le se pk pc lf ab cu cd) [.ref 29, .int (nI p), .int (gB ml)] (gEq (hC tl tn rn rp ki ag co pa me (nI sd) (nI sz) wa be pr dki dag dco dpa dme dso drs dwa dbe dpr nt nm (nI (rX6_move_29 co nm p ml bo cr de)) (nI cr) (nI de) ns np tnt tnm tnb tnc tnd tns tnp pf ph pst kh kst os og oh cs mo le se pk pc lf ab cu cd) none) := by
  refine M.of (L0 := [.ref 29, .int (nI p), .int (gB ml), gF]) (by decide +kernel) (Nat.le_of_ble_eq_true rfl) rfl ?_
  refine g_aload_n dX6_move_0 rfl 1 rfl rfl ?_
  refine g_iload_n dX6_move_1 rfl 2 rfl rfl ?_
  refine g_cVv (as := [.int (nI p)]) (st := []) dX6_move_2 5 rfl kX6_129 ⟨Nat.le_of_ble_eq_true rfl, Nat.le_of_ble_eq_true rfl⟩ (MX6_placeOf_29 (sz := sz) (bo := bo) (cr := cr) (de := de) (sd := sd) p (by omega) (by omega) (by omega) (by omega) (by omega)) rfl rfl rfl rfl (Nat.le_of_ble_eq_true rfl) (Nat.le_refl _) (Nat.le_refl _) ?_
  refine g_istore3 dX6_move_5 6 rfl (by decide) rfl ?_
  refine g_iload_n dX6_move_6 rfl 7 rfl rfl ?_
  refine g_iconst 1 dX6_move_7 8 rfl (by decide) ?_
  refine g_icmp_ne dX6_move_8 19 rfl 11 rfl (fun c1 => ?_) (fun c1 => ?_)
  · refine g_iload_n dX6_move_19 rfl 20 rfl rfl ?_
    refine g_iconst 2 dX6_move_20 21 rfl (by decide) ?_
    refine g_icmp_ne dX6_move_21 33 rfl 24 rfl (fun c2 => ?_) (fun c2 => ?_)
    · refine g_return dX6_move_33 rfl (Nat.le_refl _) (Nat.le_refl _) ?_
      have e : (rX6_move_29 co nm p ml bo cr de) = bo := by rw [rX6_move_29, if_neg c1, if_neg c2]
      rw [e]
      exact ⟨rfl, rfl⟩
    · refine g_iload_n dX6_move_24 rfl 25 rfl rfl ?_
      refine g_if_eq dX6_move_25 33 rfl 28 rfl (fun c3 => ?_) (fun c3 => ?_)
      · replace c3 := gB_f c3
        refine g_return dX6_move_33 rfl (Nat.le_refl _) (Nat.le_refl _) ?_
        have e : (rX6_move_29 co nm p ml bo cr de) = bo := by rw [rX6_move_29, if_neg c1, if_pos c2, if_neg c3]
        rw [e]
        exact ⟨rfl, rfl⟩
      · replace c3 := gB_t c3
        refine g_aload_n dX6_move_28 rfl 29 rfl rfl ?_
        refine g_iload_n dX6_move_29 rfl 30 rfl rfl ?_
        refine g_cV0 (as := [.int (nI p)]) (st := []) dX6_move_30 33 rfl kX6_116 ⟨Nat.le_of_ble_eq_true rfl, Nat.le_of_ble_eq_true rfl⟩ (MX6_letOff_29 (sz := sz) (bo := bo) (cr := cr) (de := de) (sd := sd) p (by omega) (by omega)) rfl rfl rfl rfl (Nat.le_of_ble_eq_true rfl) (Nat.le_refl _) (Nat.le_refl _) ?_
        refine g_return dX6_move_33 rfl (Nat.le_refl _) (Nat.le_refl _) ?_
        have e : (rX6_move_29 co nm p ml bo cr de) = (rX6_letOff_29 p bo) := by rw [rX6_move_29, if_neg c1, if_pos c2, if_pos c3]
        rw [e]
        exact ⟨rfl, rfl⟩
  · refine g_aload_n dX6_move_11 rfl 12 rfl rfl ?_
    refine g_iload_n dX6_move_12 rfl 13 rfl rfl ?_
    refine g_cV0 (as := [.int (nI p)]) (st := []) dX6_move_13 16 rfl kX6_132 ⟨Nat.le_of_ble_eq_true rfl, Nat.le_of_ble_eq_true rfl⟩ (MX6_takeOn_29 (sz := sz) (bo := bo) (cr := cr) (de := de) (sd := sd) p (by omega) (by omega)) rfl rfl rfl rfl (Nat.le_of_ble_eq_true rfl) (Nat.le_refl _) (Nat.le_refl _) ?_
    refine g_goto dX6_move_16 33 rfl ?_
    refine g_return dX6_move_33 rfl (Nat.le_refl _) (Nat.le_refl _) ?_
    have e : (rX6_move_29 co nm p ml bo cr de) = (rX6_takeOn_29 p bo) := by rw [rX6_move_29, if_pos c1]
    rw [e]
    exact ⟨rfl, rfl⟩
set_option maxRecDepth 100000 in
set_option maxHeartbeats 4000000 in
theorem MX6_move_32 {w : gW} {al : Bool} {tl rn ki ag co pa me dki dag dco dpa dme nt tnt os og cs mo le se ab : Int32 → Int32} {tn rp wa be pr dso drs dwa dbe dpr nm nb nc nd ns np tnm tns tnp ph kh oh pk pc lf cu cd : Int32} {pf : Nat → Option Nat} {pst kst : Nat → gS} {sz bo cr de sd : Nat} (p : Nat) (ml : Bool) (hs : sz ≤ 9) (hbo : bo < 512) (hcr : cr < 512) (hde : de < 512) (hp : p < 9)  : M w gT0 al mX6_move 0 0 (hC tl tn rn rp ki ag co pa me (nI sd) (nI sz) wa be pr dki dag dco dpa dme dso drs dwa dbe dpr nt nm nb nc nd ns np tnt tnm (nI bo) (nI cr) (nI de) tns tnp pf ph pst kh kst os og oh cs mo le se pk pc lf ab cu cd) [.ref 32, .int (nI p), .int (gB ml)] (gEq (hC tl tn rn rp ki ag co pa me (nI sd) (nI sz) wa be pr dki dag dco dpa dme dso drs dwa dbe dpr nt nm nb nc nd ns np tnt tnm (nI (rX6_move_29 co tnm p ml bo cr de)) (nI cr) (nI de) tns tnp pf ph pst kh kst os og oh cs mo le se pk pc lf ab cu cd) none) := by
  refine M.of (L0 := [.ref 32, .int (nI p), .int (gB ml), gF]) (by decide +kernel) (Nat.le_of_ble_eq_true rfl) rfl ?_
  refine g_aload_n dX6_move_0 rfl 1 rfl rfl ?_
  refine g_iload_n dX6_move_1 rfl 2 rfl rfl ?_
  refine g_cVv (as := [.int (nI p)]) (st := []) dX6_move_2 5 rfl kX6_129 ⟨Nat.le_of_ble_eq_true rfl, Nat.le_of_ble_eq_true rfl⟩ (MX6_placeOf_32 (sz := sz) (bo := bo) (cr := cr) (de := de) (sd := sd) p (by omega) (by omega) (by omega) (by omega) (by omega)) rfl rfl rfl rfl (Nat.le_of_ble_eq_true rfl) (Nat.le_refl _) (Nat.le_refl _) ?_
  refine g_istore3 dX6_move_5 6 rfl (by decide) rfl ?_
  refine g_iload_n dX6_move_6 rfl 7 rfl rfl ?_
  refine g_iconst 1 dX6_move_7 8 rfl (by decide) ?_
  refine g_icmp_ne dX6_move_8 19 rfl 11 rfl (fun c1 => ?_) (fun c1 => ?_)
  · refine g_iload_n dX6_move_19 rfl 20 rfl rfl ?_
    refine g_iconst 2 dX6_move_20 21 rfl (by decide) ?_
    refine g_icmp_ne dX6_move_21 33 rfl 24 rfl (fun c2 => ?_) (fun c2 => ?_)
    · refine g_return dX6_move_33 rfl (Nat.le_refl _) (Nat.le_refl _) ?_
      have e : (rX6_move_29 co tnm p ml bo cr de) = bo := by rw [rX6_move_29, if_neg c1, if_neg c2]
      rw [e]
      exact ⟨rfl, rfl⟩
    · refine g_iload_n dX6_move_24 rfl 25 rfl rfl ?_
      refine g_if_eq dX6_move_25 33 rfl 28 rfl (fun c3 => ?_) (fun c3 => ?_)
      · replace c3 := gB_f c3
        refine g_return dX6_move_33 rfl (Nat.le_refl _) (Nat.le_refl _) ?_
        have e : (rX6_move_29 co tnm p ml bo cr de) = bo := by rw [rX6_move_29, if_neg c1, if_pos c2, if_neg c3]
        rw [e]
        exact ⟨rfl, rfl⟩
      · replace c3 := gB_t c3
        refine g_aload_n dX6_move_28 rfl 29 rfl rfl ?_
        refine g_iload_n dX6_move_29 rfl 30 rfl rfl ?_
        refine g_cV0 (as := [.int (nI p)]) (st := []) dX6_move_30 33 rfl kX6_116 ⟨Nat.le_of_ble_eq_true rfl, Nat.le_of_ble_eq_true rfl⟩ (MX6_letOff_32 (sz := sz) (bo := bo) (cr := cr) (de := de) (sd := sd) p (by omega) (by omega)) rfl rfl rfl rfl (Nat.le_of_ble_eq_true rfl) (Nat.le_refl _) (Nat.le_refl _) ?_
        refine g_return dX6_move_33 rfl (Nat.le_refl _) (Nat.le_refl _) ?_
        have e : (rX6_move_29 co tnm p ml bo cr de) = (rX6_letOff_29 p bo) := by rw [rX6_move_29, if_neg c1, if_pos c2, if_pos c3]
        rw [e]
        exact ⟨rfl, rfl⟩
  · refine g_aload_n dX6_move_11 rfl 12 rfl rfl ?_
    refine g_iload_n dX6_move_12 rfl 13 rfl rfl ?_
    refine g_cV0 (as := [.int (nI p)]) (st := []) dX6_move_13 16 rfl kX6_132 ⟨Nat.le_of_ble_eq_true rfl, Nat.le_of_ble_eq_true rfl⟩ (MX6_takeOn_32 (sz := sz) (bo := bo) (cr := cr) (de := de) (sd := sd) p (by omega) (by omega)) rfl rfl rfl rfl (Nat.le_of_ble_eq_true rfl) (Nat.le_refl _) (Nat.le_refl _) ?_
    refine g_goto dX6_move_16 33 rfl ?_
    refine g_return dX6_move_33 rfl (Nat.le_refl _) (Nat.le_refl _) ?_
    have e : (rX6_move_29 co tnm p ml bo cr de) = (rX6_takeOn_29 p bo) := by rw [rX6_move_29, if_pos c1]
    rw [e]
    exact ⟨rfl, rfl⟩
theorem move_lt {co : Int32 → Int32} {nm : Int32} {p bo cr de : Nat} {ml : Bool} (hbo : bo < 512) (hp : p < 9) : rX6_move_29 co nm p ml bo cr de < 512 := by
  have h1 : bo ||| 2 ^ p < 2 ^ 9 := Nat.or_lt_two_pow hbo (Nat.pow_lt_pow_right (by decide) hp)
  have h2 : andN bo (2 ^ p) < 512 := Nat.lt_of_le_of_lt andN_le hbo
  unfold rX6_move_29 rX6_takeOn_29 rX6_letOff_29
  repeat (split <;> try (first | exact h1 | exact h2 | exact hbo))
def rX6_liveMinute (ki : Int32 → Int32) (ag : Int32 → Int32) (co : Int32 → Int32) (me : Int32 → Int32) (wa : Int32) (be : Int32) (pr : Int32) (tnt : Int32 → Int32) (tnm : Int32) (tns : Int32) (tnp : Int32) (dr : Nat) (sz : Nat) (bo : Nat) (cr : Nat) (de : Nat) (sd : Nat) : (Int32 → Int32) × Int32 × Nat × Nat × Int32 × Int32 := (if (((nI dr) / 16) - ((nI dr) / 16) / 2 * 2) = 0 then (if (rX6_costOf_29 ki ag me wa be pr tnt (rX6_move_29 co tnm (dr % sz) true bo cr de) sz cr de sd) = (-4) then (tnt, (tnm + 1), (rX6_move_29 co tnm (dr % sz) true bo cr de), cr, tns, tnp) else (((rX6_depart_29 ki tnt tns tnp (rX6_costOf_29 ki ag me wa be pr tnt (rX6_move_29 co tnm (dr % sz) true bo cr de) sz cr de sd) sz (rX6_move_29 co tnm (dr % sz) true bo cr de) cr).1), (tnm + 1), (rX6_depart_29 ki tnt tns tnp (rX6_costOf_29 ki ag me wa be pr tnt (rX6_move_29 co tnm (dr % sz) true bo cr de) sz cr de sd) sz (rX6_move_29 co tnm (dr % sz) true bo cr de) cr).2.1, (rX6_depart_29 ki tnt tns tnp (rX6_costOf_29 ki ag me wa be pr tnt (rX6_move_29 co tnm (dr % sz) true bo cr de) sz cr de sd) sz (rX6_move_29 co tnm (dr % sz) true bo cr de) cr).2.2.1, ((rX6_depart_29 ki tnt tns tnp (rX6_costOf_29 ki ag me wa be pr tnt (rX6_move_29 co tnm (dr % sz) true bo cr de) sz cr de sd) sz (rX6_move_29 co tnm (dr % sz) true bo cr de) cr).2.2.2.1), ((rX6_depart_29 ki tnt tns tnp (rX6_costOf_29 ki ag me wa be pr tnt (rX6_move_29 co tnm (dr % sz) true bo cr de) sz cr de sd) sz (rX6_move_29 co tnm (dr % sz) true bo cr de) cr).2.2.2.2))) else (if (rX6_costOf_29 ki ag me wa be pr tnt (rX6_move_29 co tnm (dr % sz) false bo cr de) sz cr de sd) = (-4) then (tnt, (tnm + 1), (rX6_move_29 co tnm (dr % sz) false bo cr de), cr, tns, tnp) else (((rX6_depart_29 ki tnt tns tnp (rX6_costOf_29 ki ag me wa be pr tnt (rX6_move_29 co tnm (dr % sz) false bo cr de) sz cr de sd) sz (rX6_move_29 co tnm (dr % sz) false bo cr de) cr).1), (tnm + 1), (rX6_depart_29 ki tnt tns tnp (rX6_costOf_29 ki ag me wa be pr tnt (rX6_move_29 co tnm (dr % sz) false bo cr de) sz cr de sd) sz (rX6_move_29 co tnm (dr % sz) false bo cr de) cr).2.1, (rX6_depart_29 ki tnt tns tnp (rX6_costOf_29 ki ag me wa be pr tnt (rX6_move_29 co tnm (dr % sz) false bo cr de) sz cr de sd) sz (rX6_move_29 co tnm (dr % sz) false bo cr de) cr).2.2.1, ((rX6_depart_29 ki tnt tns tnp (rX6_costOf_29 ki ag me wa be pr tnt (rX6_move_29 co tnm (dr % sz) false bo cr de) sz cr de sd) sz (rX6_move_29 co tnm (dr % sz) false bo cr de) cr).2.2.2.1), ((rX6_depart_29 ki tnt tns tnp (rX6_costOf_29 ki ag me wa be pr tnt (rX6_move_29 co tnm (dr % sz) false bo cr de) sz cr de sd) sz (rX6_move_29 co tnm (dr % sz) false bo cr de) cr).2.2.2.2))))
set_option maxRecDepth 100000 in
set_option maxHeartbeats 4000000 in
theorem MX6_liveMinute {w : gW} {al : Bool} {tl rn ki ag co pa me dki dag dco dpa dme nt tnt os og cs mo le se ab : Int32 → Int32} {tn rp wa be pr dso drs dwa dbe dpr nm nb nc nd ns np tnm tns tnp ph kh oh pk pc lf cu cd : Int32} {pf : Nat → Option Nat} {pst kst : Nat → gS} {sz bo cr de sd : Nat} (dr : Nat) (hs : sz ≤ 9) (hs1 : 1 ≤ sz) (hbo : bo < 512) (hcr : cr < 512) (hde : de < 512) (hsd : sd < 512) (hd : dr < 65521) (hm : dr % sz < 9)  : M w gT0 al mX6_liveMinute 0 0 (hC tl tn rn rp ki ag co pa me (nI sd) (nI sz) wa be pr dki dag dco dpa dme dso drs dwa dbe dpr nt nm nb nc nd ns np tnt tnm (nI bo) (nI cr) (nI de) tns tnp pf ph pst kh kst os og oh cs mo le se pk pc lf ab cu cd) [.ref 32, .int (nI dr)] (gEq (hC tl tn rn rp ki ag co pa me (nI sd) (nI sz) wa be pr dki dag dco dpa dme dso drs dwa dbe dpr nt nm nb nc nd ns np ((rX6_liveMinute ki ag co me wa be pr tnt tnm tns tnp dr sz bo cr de sd).1) ((rX6_liveMinute ki ag co me wa be pr tnt tnm tns tnp dr sz bo cr de sd).2.1) (nI ((rX6_liveMinute ki ag co me wa be pr tnt tnm tns tnp dr sz bo cr de sd).2.2.1)) (nI ((rX6_liveMinute ki ag co me wa be pr tnt tnm tns tnp dr sz bo cr de sd).2.2.2.1)) (nI de) ((rX6_liveMinute ki ag co me wa be pr tnt tnm tns tnp dr sz bo cr de sd).2.2.2.2.1) ((rX6_liveMinute ki ag co me wa be pr tnt tnm tns tnp dr sz bo cr de sd).2.2.2.2.2) pf ph pst kh kst os og oh cs mo le se pk pc lf ab cu cd) none) := by
  refine M.of (L0 := [.ref 32, .int (nI dr), gF]) (by decide +kernel) (Nat.le_of_ble_eq_true rfl) rfl ?_
  refine g_aload_n dX6_liveMinute_0 rfl 1 rfl rfl ?_
  refine g_get (v := .ref 7) dX6_liveMinute_1 4 rfl lX6_20 rfl rfl ?_
  refine g_get (v := .int (nI sz)) dX6_liveMinute_4 7 rfl lX6_60 rfl rfl ?_
  refine g_if_le dX6_liveMinute_7 37 rfl 10 rfl (fun c => absurd c (nI_nle (by omega) (by omega))) (fun _ => ?_)
  refine g_aload_n dX6_liveMinute_10 rfl 11 rfl rfl ?_
  refine g_iload_n dX6_liveMinute_11 rfl 12 rfl rfl ?_
  refine g_aload_n dX6_liveMinute_12 rfl 13 rfl rfl ?_
  refine g_get (v := .ref 7) dX6_liveMinute_13 16 rfl lX6_20 rfl rfl ?_
  refine g_get (v := .int (nI sz)) dX6_liveMinute_16 19 rfl lX6_60 rfl rfl ?_
  refine g_irem' dX6_liveMinute_19 20 rfl (nI_ne0 (by omega) (by omega)) (nI (dr % sz)) (pk_rem (by omega) (by omega) (by omega)) ?_
  refine g_iload_n dX6_liveMinute_20 rfl 21 rfl rfl ?_
  refine g_bipush 16 dX6_liveMinute_21 23 rfl (by decide) ?_
  refine g_idiv dX6_liveMinute_23 24 rfl (by decide) ?_
  refine g_iconst 2 dX6_liveMinute_24 25 rfl (by decide) ?_
  refine g_irem dX6_liveMinute_25 26 rfl (by decide) ?_
  refine g_if_ne dX6_liveMinute_26 33 rfl 29 rfl (fun c1 => ?_) (fun c1 => ?_)
  · refine g_iconst 0 dX6_liveMinute_33 34 rfl (by decide) ?_
    refine g_cV0 (as := [.int (nI (dr % sz)), .int 0]) (st := []) dX6_liveMinute_34 37 rfl kX6_119 ⟨Nat.le_of_ble_eq_true rfl, Nat.le_of_ble_eq_true rfl⟩ (MX6_move_32 (sz := sz) (bo := bo) (cr := cr) (de := de) (sd := sd) (dr % sz) false (by omega) (by omega) (by omega) (by omega) (by omega)) rfl rfl rfl rfl (Nat.le_of_ble_eq_true rfl) (Nat.le_refl _) (Nat.le_refl _) ?_
    refine g_aload_n dX6_liveMinute_37 rfl 38 rfl rfl ?_
    refine g_aload_n dX6_liveMinute_38 rfl 39 rfl rfl ?_
    refine g_get (v := .int (nI (rX6_move_29 co tnm (dr % sz) false bo cr de))) dX6_liveMinute_39 42 rfl lX6_31 rfl rfl ?_
    refine g_cVv (as := [.int (nI (rX6_move_29 co tnm (dr % sz) false bo cr de))]) (st := []) dX6_liveMinute_42 45 rfl kX6_123 ⟨Nat.le_of_ble_eq_true rfl, Nat.le_of_ble_eq_true rfl⟩ (MX6_costOf_32 (sz := sz) (bo := (rX6_move_29 co tnm (dr % sz) false bo cr de)) (cr := cr) (de := de) (sd := sd) (rX6_move_29 co tnm (dr % sz) false bo cr de) (by omega) (by omega) (move_lt (by omega) (by omega))) rfl rfl rfl rfl (Nat.le_of_ble_eq_true rfl) (Nat.le_refl _) (Nat.le_refl _) ?_
    refine g_istore2 dX6_liveMinute_45 46 rfl (by decide) rfl ?_
    refine g_iload_n dX6_liveMinute_46 rfl 47 rfl rfl ?_
    refine g_bipush (-4) dX6_liveMinute_47 49 rfl (by decide) ?_
    refine g_icmp_eq dX6_liveMinute_49 57 rfl 52 rfl (fun c3 => ?_) (fun c3 => ?_)
    · refine g_aload_n dX6_liveMinute_57 rfl 58 rfl rfl ?_
      refine g_dup dX6_liveMinute_58 59 rfl rfl ?_
      refine g_get (v := .int tnm) dX6_liveMinute_59 62 rfl lX6_27 rfl rfl ?_
      refine g_iconst 1 dX6_liveMinute_62 63 rfl (by decide) ?_
      refine g_iadd dX6_liveMinute_63 64 rfl ?_
      refine g_put dX6_liveMinute_64 67 rfl lX6_27 wrX6 rfl rfl rfl rfl rfl (Nat.le_of_ble_eq_true rfl) (h' := (hC tl tn rn rp ki ag co pa me (nI sd) (nI sz) wa be pr dki dag dco dpa dme dso drs dwa dbe dpr nt nm nb nc nd ns np tnt (tnm + 1) (nI (rX6_move_29 co tnm (dr % sz) false bo cr de)) (nI cr) (nI de) tns tnp pf ph pst kh kst os og oh cs mo le se pk pc lf ab cu cd)) rfl ?_
      refine g_return dX6_liveMinute_67 rfl (Nat.le_refl _) (Nat.le_refl _) ?_
      have e : (rX6_liveMinute ki ag co me wa be pr tnt tnm tns tnp dr sz bo cr de sd) = (tnt, (tnm + 1), (rX6_move_29 co tnm (dr % sz) false bo cr de), cr, tns, tnp) := by rw [rX6_liveMinute, if_neg c1, if_pos c3]
      rw [e]
      exact ⟨rfl, rfl⟩
    · refine g_aload_n dX6_liveMinute_52 rfl 53 rfl rfl ?_
      refine g_iload_n dX6_liveMinute_53 rfl 54 rfl rfl ?_
      refine g_cV0 (as := [.int (rX6_costOf_29 ki ag me wa be pr tnt (rX6_move_29 co tnm (dr % sz) false bo cr de) sz cr de sd)]) (st := []) dX6_liveMinute_54 57 rfl kX6_126 ⟨Nat.le_of_ble_eq_true rfl, Nat.le_of_ble_eq_true rfl⟩ (MX6_depart_32 (sz := sz) (bo := (rX6_move_29 co tnm (dr % sz) false bo cr de)) (cr := cr) (de := de) (sd := sd) (rX6_costOf_29 ki ag me wa be pr tnt (rX6_move_29 co tnm (dr % sz) false bo cr de) sz cr de sd) (by omega) (move_lt (by omega) (by omega))) rfl rfl rfl rfl (Nat.le_of_ble_eq_true rfl) (Nat.le_refl _) (Nat.le_refl _) ?_
      refine g_aload_n dX6_liveMinute_57 rfl 58 rfl rfl ?_
      refine g_dup dX6_liveMinute_58 59 rfl rfl ?_
      refine g_get (v := .int tnm) dX6_liveMinute_59 62 rfl lX6_27 rfl rfl ?_
      refine g_iconst 1 dX6_liveMinute_62 63 rfl (by decide) ?_
      refine g_iadd dX6_liveMinute_63 64 rfl ?_
      refine g_put dX6_liveMinute_64 67 rfl lX6_27 wrX6 rfl rfl rfl rfl rfl (Nat.le_of_ble_eq_true rfl) (h' := (hC tl tn rn rp ki ag co pa me (nI sd) (nI sz) wa be pr dki dag dco dpa dme dso drs dwa dbe dpr nt nm nb nc nd ns np ((rX6_depart_29 ki tnt tns tnp (rX6_costOf_29 ki ag me wa be pr tnt (rX6_move_29 co tnm (dr % sz) false bo cr de) sz cr de sd) sz (rX6_move_29 co tnm (dr % sz) false bo cr de) cr).1) (tnm + 1) (nI ((rX6_depart_29 ki tnt tns tnp (rX6_costOf_29 ki ag me wa be pr tnt (rX6_move_29 co tnm (dr % sz) false bo cr de) sz cr de sd) sz (rX6_move_29 co tnm (dr % sz) false bo cr de) cr).2.1)) (nI ((rX6_depart_29 ki tnt tns tnp (rX6_costOf_29 ki ag me wa be pr tnt (rX6_move_29 co tnm (dr % sz) false bo cr de) sz cr de sd) sz (rX6_move_29 co tnm (dr % sz) false bo cr de) cr).2.2.1)) (nI de) ((rX6_depart_29 ki tnt tns tnp (rX6_costOf_29 ki ag me wa be pr tnt (rX6_move_29 co tnm (dr % sz) false bo cr de) sz cr de sd) sz (rX6_move_29 co tnm (dr % sz) false bo cr de) cr).2.2.2.1) ((rX6_depart_29 ki tnt tns tnp (rX6_costOf_29 ki ag me wa be pr tnt (rX6_move_29 co tnm (dr % sz) false bo cr de) sz cr de sd) sz (rX6_move_29 co tnm (dr % sz) false bo cr de) cr).2.2.2.2) pf ph pst kh kst os og oh cs mo le se pk pc lf ab cu cd)) rfl ?_
      refine g_return dX6_liveMinute_67 rfl (Nat.le_refl _) (Nat.le_refl _) ?_
      have e : (rX6_liveMinute ki ag co me wa be pr tnt tnm tns tnp dr sz bo cr de sd) = (((rX6_depart_29 ki tnt tns tnp (rX6_costOf_29 ki ag me wa be pr tnt (rX6_move_29 co tnm (dr % sz) false bo cr de) sz cr de sd) sz (rX6_move_29 co tnm (dr % sz) false bo cr de) cr).1), (tnm + 1), (rX6_depart_29 ki tnt tns tnp (rX6_costOf_29 ki ag me wa be pr tnt (rX6_move_29 co tnm (dr % sz) false bo cr de) sz cr de sd) sz (rX6_move_29 co tnm (dr % sz) false bo cr de) cr).2.1, (rX6_depart_29 ki tnt tns tnp (rX6_costOf_29 ki ag me wa be pr tnt (rX6_move_29 co tnm (dr % sz) false bo cr de) sz cr de sd) sz (rX6_move_29 co tnm (dr % sz) false bo cr de) cr).2.2.1, ((rX6_depart_29 ki tnt tns tnp (rX6_costOf_29 ki ag me wa be pr tnt (rX6_move_29 co tnm (dr % sz) false bo cr de) sz cr de sd) sz (rX6_move_29 co tnm (dr % sz) false bo cr de) cr).2.2.2.1), ((rX6_depart_29 ki tnt tns tnp (rX6_costOf_29 ki ag me wa be pr tnt (rX6_move_29 co tnm (dr % sz) false bo cr de) sz cr de sd) sz (rX6_move_29 co tnm (dr % sz) false bo cr de) cr).2.2.2.2)) := by rw [rX6_liveMinute, if_neg c1, if_neg c3]
      rw [e]
      exact ⟨rfl, rfl⟩
  · refine g_iconst 1 dX6_liveMinute_29 30 rfl (by decide) ?_
    refine g_goto dX6_liveMinute_30 34 rfl ?_
    refine g_cV0 (as := [.int (nI (dr % sz)), .int 1]) (st := []) dX6_liveMinute_34 37 rfl kX6_119 ⟨Nat.le_of_ble_eq_true rfl, Nat.le_of_ble_eq_true rfl⟩ (MX6_move_32 (sz := sz) (bo := bo) (cr := cr) (de := de) (sd := sd) (dr % sz) true (by omega) (by omega) (by omega) (by omega) (by omega)) rfl rfl rfl rfl (Nat.le_of_ble_eq_true rfl) (Nat.le_refl _) (Nat.le_refl _) ?_
    refine g_aload_n dX6_liveMinute_37 rfl 38 rfl rfl ?_
    refine g_aload_n dX6_liveMinute_38 rfl 39 rfl rfl ?_
    refine g_get (v := .int (nI (rX6_move_29 co tnm (dr % sz) true bo cr de))) dX6_liveMinute_39 42 rfl lX6_31 rfl rfl ?_
    refine g_cVv (as := [.int (nI (rX6_move_29 co tnm (dr % sz) true bo cr de))]) (st := []) dX6_liveMinute_42 45 rfl kX6_123 ⟨Nat.le_of_ble_eq_true rfl, Nat.le_of_ble_eq_true rfl⟩ (MX6_costOf_32 (sz := sz) (bo := (rX6_move_29 co tnm (dr % sz) true bo cr de)) (cr := cr) (de := de) (sd := sd) (rX6_move_29 co tnm (dr % sz) true bo cr de) (by omega) (by omega) (move_lt (by omega) (by omega))) rfl rfl rfl rfl (Nat.le_of_ble_eq_true rfl) (Nat.le_refl _) (Nat.le_refl _) ?_
    refine g_istore2 dX6_liveMinute_45 46 rfl (by decide) rfl ?_
    refine g_iload_n dX6_liveMinute_46 rfl 47 rfl rfl ?_
    refine g_bipush (-4) dX6_liveMinute_47 49 rfl (by decide) ?_
    refine g_icmp_eq dX6_liveMinute_49 57 rfl 52 rfl (fun c2 => ?_) (fun c2 => ?_)
    · refine g_aload_n dX6_liveMinute_57 rfl 58 rfl rfl ?_
      refine g_dup dX6_liveMinute_58 59 rfl rfl ?_
      refine g_get (v := .int tnm) dX6_liveMinute_59 62 rfl lX6_27 rfl rfl ?_
      refine g_iconst 1 dX6_liveMinute_62 63 rfl (by decide) ?_
      refine g_iadd dX6_liveMinute_63 64 rfl ?_
      refine g_put dX6_liveMinute_64 67 rfl lX6_27 wrX6 rfl rfl rfl rfl rfl (Nat.le_of_ble_eq_true rfl) (h' := (hC tl tn rn rp ki ag co pa me (nI sd) (nI sz) wa be pr dki dag dco dpa dme dso drs dwa dbe dpr nt nm nb nc nd ns np tnt (tnm + 1) (nI (rX6_move_29 co tnm (dr % sz) true bo cr de)) (nI cr) (nI de) tns tnp pf ph pst kh kst os og oh cs mo le se pk pc lf ab cu cd)) rfl ?_
      refine g_return dX6_liveMinute_67 rfl (Nat.le_refl _) (Nat.le_refl _) ?_
      have e : (rX6_liveMinute ki ag co me wa be pr tnt tnm tns tnp dr sz bo cr de sd) = (tnt, (tnm + 1), (rX6_move_29 co tnm (dr % sz) true bo cr de), cr, tns, tnp) := by rw [rX6_liveMinute, if_pos c1, if_pos c2]
      rw [e]
      exact ⟨rfl, rfl⟩
    · refine g_aload_n dX6_liveMinute_52 rfl 53 rfl rfl ?_
      refine g_iload_n dX6_liveMinute_53 rfl 54 rfl rfl ?_
      refine g_cV0 (as := [.int (rX6_costOf_29 ki ag me wa be pr tnt (rX6_move_29 co tnm (dr % sz) true bo cr de) sz cr de sd)]) (st := []) dX6_liveMinute_54 57 rfl kX6_126 ⟨Nat.le_of_ble_eq_true rfl, Nat.le_of_ble_eq_true rfl⟩ (MX6_depart_32 (sz := sz) (bo := (rX6_move_29 co tnm (dr % sz) true bo cr de)) (cr := cr) (de := de) (sd := sd) (rX6_costOf_29 ki ag me wa be pr tnt (rX6_move_29 co tnm (dr % sz) true bo cr de) sz cr de sd) (by omega) (move_lt (by omega) (by omega))) rfl rfl rfl rfl (Nat.le_of_ble_eq_true rfl) (Nat.le_refl _) (Nat.le_refl _) ?_
      refine g_aload_n dX6_liveMinute_57 rfl 58 rfl rfl ?_
      refine g_dup dX6_liveMinute_58 59 rfl rfl ?_
      refine g_get (v := .int tnm) dX6_liveMinute_59 62 rfl lX6_27 rfl rfl ?_
      refine g_iconst 1 dX6_liveMinute_62 63 rfl (by decide) ?_
      refine g_iadd dX6_liveMinute_63 64 rfl ?_
      refine g_put dX6_liveMinute_64 67 rfl lX6_27 wrX6 rfl rfl rfl rfl rfl (Nat.le_of_ble_eq_true rfl) (h' := (hC tl tn rn rp ki ag co pa me (nI sd) (nI sz) wa be pr dki dag dco dpa dme dso drs dwa dbe dpr nt nm nb nc nd ns np ((rX6_depart_29 ki tnt tns tnp (rX6_costOf_29 ki ag me wa be pr tnt (rX6_move_29 co tnm (dr % sz) true bo cr de) sz cr de sd) sz (rX6_move_29 co tnm (dr % sz) true bo cr de) cr).1) (tnm + 1) (nI ((rX6_depart_29 ki tnt tns tnp (rX6_costOf_29 ki ag me wa be pr tnt (rX6_move_29 co tnm (dr % sz) true bo cr de) sz cr de sd) sz (rX6_move_29 co tnm (dr % sz) true bo cr de) cr).2.1)) (nI ((rX6_depart_29 ki tnt tns tnp (rX6_costOf_29 ki ag me wa be pr tnt (rX6_move_29 co tnm (dr % sz) true bo cr de) sz cr de sd) sz (rX6_move_29 co tnm (dr % sz) true bo cr de) cr).2.2.1)) (nI de) ((rX6_depart_29 ki tnt tns tnp (rX6_costOf_29 ki ag me wa be pr tnt (rX6_move_29 co tnm (dr % sz) true bo cr de) sz cr de sd) sz (rX6_move_29 co tnm (dr % sz) true bo cr de) cr).2.2.2.1) ((rX6_depart_29 ki tnt tns tnp (rX6_costOf_29 ki ag me wa be pr tnt (rX6_move_29 co tnm (dr % sz) true bo cr de) sz cr de sd) sz (rX6_move_29 co tnm (dr % sz) true bo cr de) cr).2.2.2.2) pf ph pst kh kst os og oh cs mo le se pk pc lf ab cu cd)) rfl ?_
      refine g_return dX6_liveMinute_67 rfl (Nat.le_refl _) (Nat.le_refl _) ?_
      have e : (rX6_liveMinute ki ag co me wa be pr tnt tnm tns tnp dr sz bo cr de sd) = (((rX6_depart_29 ki tnt tns tnp (rX6_costOf_29 ki ag me wa be pr tnt (rX6_move_29 co tnm (dr % sz) true bo cr de) sz cr de sd) sz (rX6_move_29 co tnm (dr % sz) true bo cr de) cr).1), (tnm + 1), (rX6_depart_29 ki tnt tns tnp (rX6_costOf_29 ki ag me wa be pr tnt (rX6_move_29 co tnm (dr % sz) true bo cr de) sz cr de sd) sz (rX6_move_29 co tnm (dr % sz) true bo cr de) cr).2.1, (rX6_depart_29 ki tnt tns tnp (rX6_costOf_29 ki ag me wa be pr tnt (rX6_move_29 co tnm (dr % sz) true bo cr de) sz cr de sd) sz (rX6_move_29 co tnm (dr % sz) true bo cr de) cr).2.2.1, ((rX6_depart_29 ki tnt tns tnp (rX6_costOf_29 ki ag me wa be pr tnt (rX6_move_29 co tnm (dr % sz) true bo cr de) sz cr de sd) sz (rX6_move_29 co tnm (dr % sz) true bo cr de) cr).2.2.2.1), ((rX6_depart_29 ki tnt tns tnp (rX6_costOf_29 ki ag me wa be pr tnt (rX6_move_29 co tnm (dr % sz) true bo cr de) sz cr de sd) sz (rX6_move_29 co tnm (dr % sz) true bo cr de) cr).2.2.2.2)) := by rw [rX6_liveMinute, if_pos c1, if_neg c2]
      rw [e]
      exact ⟨rfl, rfl⟩
def rX6_reset (nt : Int32 → Int32) : (Int32 → Int32) × Int32 × Int32 × Int32 × Int32 × Int32 × Int32 := ((rFill 0 9 0 nt), 0, 0, 0, 0, 0, 0)
set_option maxRecDepth 100000 in
set_option maxHeartbeats 4000000 in
theorem MX6_reset {w : gW} {al : Bool} {tl rn ki ag co pa me dki dag dco dpa dme nt tnt os og cs mo le se ab : Int32 → Int32} {tn rp so rs wa be pr dso drs dwa dbe dpr nm nb nc nd ns np tnm tnb tnc tnd tns tnp ph kh oh pk pc lf cu cd : Int32} {pf : Nat → Option Nat} {pst kst : Nat → gS}   : M w gT0 al mX6_reset 0 0 (hC tl tn rn rp ki ag co pa me so rs wa be pr dki dag dco dpa dme dso drs dwa dbe dpr nt nm nb nc nd ns np tnt tnm tnb tnc tnd tns tnp pf ph pst kh kst os og oh cs mo le se pk pc lf ab cu cd) [.ref 29] (gEq (hC tl tn rn rp ki ag co pa me so rs wa be pr dki dag dco dpa dme dso drs dwa dbe dpr ((rX6_reset nt).1) ((rX6_reset nt).2.1) ((rX6_reset nt).2.2.1) ((rX6_reset nt).2.2.2.1) ((rX6_reset nt).2.2.2.2.1) ((rX6_reset nt).2.2.2.2.2.1) ((rX6_reset nt).2.2.2.2.2.2) tnt tnm tnb tnc tnd tns tnp pf ph pst kh kst os og oh cs mo le se pk pc lf ab cu cd) none) := by
  refine M.of (L0 := [.ref 29]) (by decide +kernel) (Nat.le_of_ble_eq_true rfl) rfl ?_
  refine g_aload_n dX6_reset_0 rfl 1 rfl rfl ?_
  refine g_get (v := .ref 30) dX6_reset_1 4 rfl lX6_14 rfl rfl ?_
  refine g_iconst 0 dX6_reset_4 5 rfl (by decide) ?_
  refine g_cV0 (as := [.int 0]) (st := []) dX6_reset_5 8 rfl kX6_24 ⟨Nat.le_of_ble_eq_true rfl, Nat.le_of_ble_eq_true rfl⟩ (MX3_fill (k := 30) (j := 31) (N := 9) (f := nt) rfl rfl (by decide) (by decide) 0 (h' := (hC tl tn rn rp ki ag co pa me so rs wa be pr dki dag dco dpa dme dso drs dwa dbe dpr (rFill 0 9 0 nt) nm nb nc nd ns np tnt tnm tnb tnc tnd tns tnp pf ph pst kh kst os og oh cs mo le se pk pc lf ab cu cd)) rfl) rfl rfl rfl rfl (Nat.le_of_ble_eq_true rfl) (Nat.le_refl _) (Nat.le_refl _) ?_
  refine g_aload_n dX6_reset_8 rfl 9 rfl rfl ?_
  refine g_iconst 0 dX6_reset_9 10 rfl (by decide) ?_
  refine g_put dX6_reset_10 13 rfl lX6_27 wrX6 rfl rfl rfl rfl rfl (Nat.le_of_ble_eq_true rfl) (h' := (hC tl tn rn rp ki ag co pa me so rs wa be pr dki dag dco dpa dme dso drs dwa dbe dpr (rFill 0 9 0 nt) 0 nb nc nd ns np tnt tnm tnb tnc tnd tns tnp pf ph pst kh kst os og oh cs mo le se pk pc lf ab cu cd)) rfl ?_
  refine g_aload_n dX6_reset_13 rfl 14 rfl rfl ?_
  refine g_iconst 0 dX6_reset_14 15 rfl (by decide) ?_
  refine g_put dX6_reset_15 18 rfl lX6_31 wrX6 rfl rfl rfl rfl rfl (Nat.le_of_ble_eq_true rfl) (h' := (hC tl tn rn rp ki ag co pa me so rs wa be pr dki dag dco dpa dme dso drs dwa dbe dpr (rFill 0 9 0 nt) 0 0 nc nd ns np tnt tnm tnb tnc tnd tns tnp pf ph pst kh kst os og oh cs mo le se pk pc lf ab cu cd)) rfl ?_
  refine g_aload_n dX6_reset_18 rfl 19 rfl rfl ?_
  refine g_iconst 0 dX6_reset_19 20 rfl (by decide) ?_
  refine g_put dX6_reset_20 23 rfl lX6_34 wrX6 rfl rfl rfl rfl rfl (Nat.le_of_ble_eq_true rfl) (h' := (hC tl tn rn rp ki ag co pa me so rs wa be pr dki dag dco dpa dme dso drs dwa dbe dpr (rFill 0 9 0 nt) 0 0 0 nd ns np tnt tnm tnb tnc tnd tns tnp pf ph pst kh kst os og oh cs mo le se pk pc lf ab cu cd)) rfl ?_
  refine g_aload_n dX6_reset_23 rfl 24 rfl rfl ?_
  refine g_iconst 0 dX6_reset_24 25 rfl (by decide) ?_
  refine g_put dX6_reset_25 28 rfl lX6_37 wrX6 rfl rfl rfl rfl rfl (Nat.le_of_ble_eq_true rfl) (h' := (hC tl tn rn rp ki ag co pa me so rs wa be pr dki dag dco dpa dme dso drs dwa dbe dpr (rFill 0 9 0 nt) 0 0 0 0 ns np tnt tnm tnb tnc tnd tns tnp pf ph pst kh kst os og oh cs mo le se pk pc lf ab cu cd)) rfl ?_
  refine g_aload_n dX6_reset_28 rfl 29 rfl rfl ?_
  refine g_iconst 0 dX6_reset_29 30 rfl (by decide) ?_
  refine g_put dX6_reset_30 33 rfl lX6_40 wrX6 rfl rfl rfl rfl rfl (Nat.le_of_ble_eq_true rfl) (h' := (hC tl tn rn rp ki ag co pa me so rs wa be pr dki dag dco dpa dme dso drs dwa dbe dpr (rFill 0 9 0 nt) 0 0 0 0 0 np tnt tnm tnb tnc tnd tns tnp pf ph pst kh kst os og oh cs mo le se pk pc lf ab cu cd)) rfl ?_
  refine g_aload_n dX6_reset_33 rfl 34 rfl rfl ?_
  refine g_iconst 0 dX6_reset_34 35 rfl (by decide) ?_
  refine g_put dX6_reset_35 38 rfl lX6_43 wrX6 rfl rfl rfl rfl rfl (Nat.le_of_ble_eq_true rfl) (h' := (hC tl tn rn rp ki ag co pa me so rs wa be pr dki dag dco dpa dme dso drs dwa dbe dpr (rFill 0 9 0 nt) 0 0 0 0 0 0 tnt tnm tnb tnc tnd tns tnp pf ph pst kh kst os og oh cs mo le se pk pc lf ab cu cd)) rfl ?_
  refine g_return dX6_reset_38 rfl (Nat.le_refl _) (Nat.le_refl _) ?_
  have e : (rX6_reset nt) = ((rFill 0 9 0 nt), 0, 0, 0, 0, 0, 0) := by rw [rX6_reset]
  rw [e]
  exact ⟨rfl, rfl⟩
