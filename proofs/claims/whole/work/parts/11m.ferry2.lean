/-! the class: AgesFerry, sets -/
def rX9_waits (ki : Int32 → Int32) (ag : Int32 → Int32) (co : Int32 → Int32) (me : Int32 → Int32) (wa : Int32) (be : Int32) (pr : Int32) (nt : Int32 → Int32) (nm : Int32) (cs : Int32 → Int32) (sz : Nat) (cr : Nat) (de : Nat) (sd : Nat) : Int32 × (Int32 → Int32) := (((rX4_shortestWait ki ag co me wa be pr nt nm cs sz cr de sd).1), ((rX4_shortestWait ki ag co me wa be pr nt nm cs sz cr de sd).2))
set_option maxRecDepth 100000 in
set_option maxHeartbeats 4000000 in
theorem MX9_waits {w : gW} {al : Bool} {tl rn ki ag co pa me dki dag dco dpa dme nt tnt os og cs mo le se ab : Int32 → Int32} {tn rp wa be pr dso drs dwa dbe dpr nm ns np tnm tnb tnc tnd tns tnp ph kh oh pk pc lf cu cd : Int32} {pf : Nat → Option Nat} {pst kst : Nat → gS} {sz bo cr de sd : Nat} (hs : sz ≤ 9) (hbo : bo < 512) (hcr : cr < 512) (hde : de < 512) (hsd : sd < 512)  : M w gT0 al mX9_waits 0 0 (hC tl tn rn rp ki ag co pa me (nI sd) (nI sz) wa be pr dki dag dco dpa dme dso drs dwa dbe dpr nt nm (nI bo) (nI cr) (nI de) ns np tnt tnm tnb tnc tnd tns tnp pf ph pst kh kst os og oh cs mo le se pk pc lf ab cu cd) [.ref 0] (gEq (hC tl tn rn rp ki ag co pa me (nI sd) (nI sz) wa be pr dki dag dco dpa dme dso drs dwa dbe dpr nt nm (nI bo) (nI cr) (nI de) ns np tnt tnm tnb tnc tnd tns tnp pf ph pst kh kst os og oh ((rX9_waits ki ag co me wa be pr nt nm cs sz cr de sd).2) mo le se pk pc lf ab cu cd) (some (.int ((rX9_waits ki ag co me wa be pr nt nm cs sz cr de sd).1)))) := by
  refine M.of (L0 := [.ref 0]) (by decide +kernel) (Nat.le_of_ble_eq_true rfl) rfl ?_
  refine g_aload_n dX9_waits_0 rfl 1 rfl rfl ?_
  refine g_get (v := .ref 74) dX9_waits_1 4 rfl lX9_71 rfl rfl ?_
  refine g_cVv (as := []) (st := []) dX9_waits_4 7 rfl kX9_191 ⟨Nat.le_of_ble_eq_true rfl, Nat.le_of_ble_eq_true rfl⟩ (MX4_shortestWait (sz := sz) (bo := bo) (cr := cr) (de := de) (sd := sd) (by omega) (by omega)) rfl rfl rfl rfl (Nat.le_of_ble_eq_true rfl) (Nat.le_refl _) (Nat.le_refl _) ?_
  refine g_ireturn dX9_waits_7 rfl rfl (Nat.le_refl _) (Nat.le_refl _) ?_
  have e : (rX9_waits ki ag co me wa be pr nt nm cs sz cr de sd) = (((rX4_shortestWait ki ag co me wa be pr nt nm cs sz cr de sd).1), ((rX4_shortestWait ki ag co me wa be pr nt nm cs sz cr de sd).2)) := by rw [rX9_waits]
  rw [e]
  try dsimp only
  exact ⟨rfl, rfl⟩
def rX9_setsFor (ki : Int32 → Int32) (ag : Int32 → Int32) (co : Int32 → Int32) (me : Int32 → Int32) (wa : Int32) (be : Int32) (pr : Int32) (nt : Int32 → Int32) (nm : Int32) (cs : Int32 → Int32) (p : Nat) (sz : Nat) (cr : Nat) (de : Nat) (sd : Nat) : Int32 × (Int32 → Int32) := (if ((presN co nm sz cr de).testBit p) = true then (((rX4_manyWith ki ag co me wa be pr nt nm cs p sz cr de sd).1), ((rX4_manyWith ki ag co me wa be pr nt nm cs p sz cr de sd).2)) else ((-2), cs))
set_option maxRecDepth 100000 in
set_option maxHeartbeats 4000000 in
theorem MX9_setsFor {w : gW} {al : Bool} {tl rn ki ag co pa me dki dag dco dpa dme nt tnt os og cs mo le se ab : Int32 → Int32} {tn rp wa be pr dso drs dwa dbe dpr nm ns np tnm tnb tnc tnd tns tnp ph kh oh pk pc lf cu cd : Int32} {pf : Nat → Option Nat} {pst kst : Nat → gS} {sz bo cr de sd : Nat} (p : Nat) (hs : sz ≤ 9) (hbo : bo < 512) (hcr : cr < 512) (hde : de < 512) (hsd : sd < 512) (hp : p < 9) (hv : (rX9_isPerson (nI p) sz) = true)  : M w gT0 al mX9_setsFor 0 0 (hC tl tn rn rp ki ag co pa me (nI sd) (nI sz) wa be pr dki dag dco dpa dme dso drs dwa dbe dpr nt nm (nI bo) (nI cr) (nI de) ns np tnt tnm tnb tnc tnd tns tnp pf ph pst kh kst os og oh cs mo le se pk pc lf ab cu cd) [.ref 0, .int (nI p)] (gEq (hC tl tn rn rp ki ag co pa me (nI sd) (nI sz) wa be pr dki dag dco dpa dme dso drs dwa dbe dpr nt nm (nI bo) (nI cr) (nI de) ns np tnt tnm tnb tnc tnd tns tnp pf ph pst kh kst os og oh ((rX9_setsFor ki ag co me wa be pr nt nm cs p sz cr de sd).2) mo le se pk pc lf ab cu cd) (some (.int ((rX9_setsFor ki ag co me wa be pr nt nm cs p sz cr de sd).1)))) := by
  refine M.of (L0 := [.ref 0, .int (nI p)]) (by decide +kernel) (Nat.le_of_ble_eq_true rfl) rfl ?_
  refine g_aload_n dX9_setsFor_0 rfl 1 rfl rfl ?_
  refine g_iload_n dX9_setsFor_1 rfl 2 rfl rfl ?_
  refine g_cVv (as := [.int (nI p)]) (st := []) dX9_setsFor_2 5 rfl kX9_117 ⟨Nat.le_of_ble_eq_true rfl, Nat.le_of_ble_eq_true rfl⟩ (MX9_isPerson (sz := sz) (nI p)) rfl rfl rfl rfl (Nat.le_of_ble_eq_true rfl) (Nat.le_refl _) (Nat.le_refl _) ?_
  refine g_if_ne dX9_setsFor_5 10 rfl 8 rfl (fun _ => ?_) (fun c => absurd c (gB_1 hv))
  refine g_aload_n dX9_setsFor_10 rfl 11 rfl rfl ?_
  refine g_get (v := .ref 29) dX9_setsFor_11 14 rfl lX9_40 rfl rfl ?_
  refine g_cVv (as := []) (st := []) dX9_setsFor_14 17 rfl kX9_206 ⟨Nat.le_of_ble_eq_true rfl, Nat.le_of_ble_eq_true rfl⟩ (MX6_present_29' (sz := sz) (bo := bo) (cr := cr) (de := de) (sd := sd) (by omega)) rfl rfl rfl rfl (Nat.le_of_ble_eq_true rfl) (Nat.le_refl _) (Nat.le_refl _) ?_
  refine g_iload_n dX9_setsFor_17 rfl 18 rfl rfl ?_
  refine g_cSv (as := [.int (nI (presN co nm sz cr de)), .int (nI p)]) (st := []) dX9_setsFor_18 21 rfl kX9_209 ⟨Nat.le_of_ble_eq_true rfl, Nat.le_of_ble_eq_true rfl⟩ (MX9_has (presN co nm sz cr de) p (Nat.lt_trans (presN_lt (by omega)) (by decide)) (by omega)) rfl (Nat.le_of_ble_eq_true rfl) (Nat.le_refl _) (Nat.le_refl _) ?_
  refine g_if_eq dX9_setsFor_21 35 rfl 24 rfl (fun c1 => ?_) (fun c1 => ?_)
  · replace c1 := gB_f c1
    refine g_bipush (-2) dX9_setsFor_35 37 rfl (by decide) ?_
    refine g_ireturn dX9_setsFor_37 rfl rfl (Nat.le_refl _) (Nat.le_refl _) ?_
    have e : (rX9_setsFor ki ag co me wa be pr nt nm cs p sz cr de sd) = ((-2), cs) := by rw [rX9_setsFor, if_neg c1]
    rw [e]
    try dsimp only
    exact ⟨rfl, rfl⟩
  · replace c1 := gB_t c1
    refine g_aload_n dX9_setsFor_24 rfl 25 rfl rfl ?_
    refine g_get (v := .ref 74) dX9_setsFor_25 28 rfl lX9_71 rfl rfl ?_
    refine g_iload_n dX9_setsFor_28 rfl 29 rfl rfl ?_
    refine g_cVv (as := [.int (nI p)]) (st := []) dX9_setsFor_29 32 rfl kX9_213 ⟨Nat.le_of_ble_eq_true rfl, Nat.le_of_ble_eq_true rfl⟩ (MX4_manyWith (sz := sz) (bo := bo) (cr := cr) (de := de) (sd := sd) p (by omega) (by omega) (by omega)) rfl rfl rfl rfl (Nat.le_of_ble_eq_true rfl) (Nat.le_refl _) (Nat.le_refl _) ?_
    refine g_goto dX9_setsFor_32 37 rfl ?_
    refine g_ireturn dX9_setsFor_37 rfl rfl (Nat.le_refl _) (Nat.le_refl _) ?_
    have e : (rX9_setsFor ki ag co me wa be pr nt nm cs p sz cr de sd) = (((rX4_manyWith ki ag co me wa be pr nt nm cs p sz cr de sd).1), ((rX4_manyWith ki ag co me wa be pr nt nm cs p sz cr de sd).2)) := by rw [rX9_setsFor, if_pos c1]
    rw [e]
    try dsimp only
    exact ⟨rfl, rfl⟩
def rX9_setsFor_x  : Int32 := (-1)
set_option maxRecDepth 100000 in
set_option maxHeartbeats 4000000 in
theorem MX9_setsFor_x {w : gW} {al : Bool} {tl rn ki ag co pa me dki dag dco dpa dme nt tnt os og cs mo le se ab : Int32 → Int32} {tn rp wa be pr dso drs dwa dbe dpr nm ns np tnm tnb tnc tnd tns tnp ph kh oh pk pc lf cu cd : Int32} {pf : Nat → Option Nat} {pst kst : Nat → gS} {sz bo cr de sd : Nat} (p : Int32) (hs : sz ≤ 9) (hbo : bo < 512) (hcr : cr < 512) (hde : de < 512) (hsd : sd < 512) (hv : ¬ (rX9_isPerson p sz) = true)  : M w gT0 al mX9_setsFor 0 0 (hC tl tn rn rp ki ag co pa me (nI sd) (nI sz) wa be pr dki dag dco dpa dme dso drs dwa dbe dpr nt nm (nI bo) (nI cr) (nI de) ns np tnt tnm tnb tnc tnd tns tnp pf ph pst kh kst os og oh cs mo le se pk pc lf ab cu cd) [.ref 0, .int p] (gEq (hC tl tn rn rp ki ag co pa me (nI sd) (nI sz) wa be pr dki dag dco dpa dme dso drs dwa dbe dpr nt nm (nI bo) (nI cr) (nI de) ns np tnt tnm tnb tnc tnd tns tnp pf ph pst kh kst os og oh cs mo le se pk pc lf ab cu cd) (some (.int rX9_setsFor_x))) := by
  refine M.of (L0 := [.ref 0, .int p]) (by decide +kernel) (Nat.le_of_ble_eq_true rfl) rfl ?_
  refine g_aload_n dX9_setsFor_0 rfl 1 rfl rfl ?_
  refine g_iload_n dX9_setsFor_1 rfl 2 rfl rfl ?_
  refine g_cVv (as := [.int p]) (st := []) dX9_setsFor_2 5 rfl kX9_117 ⟨Nat.le_of_ble_eq_true rfl, Nat.le_of_ble_eq_true rfl⟩ (MX9_isPerson (sz := sz) p) rfl rfl rfl rfl (Nat.le_of_ble_eq_true rfl) (Nat.le_refl _) (Nat.le_refl _) ?_
  refine g_if_ne dX9_setsFor_5 10 rfl 8 rfl (fun c => absurd (gB_0 hv) c) (fun _ => ?_)
  refine g_iconst (-1) dX9_setsFor_8 9 rfl (by decide) ?_
  refine g_ireturn dX9_setsFor_9 rfl rfl (Nat.le_refl _) (Nat.le_refl _) ?_
  have e : rX9_setsFor_x = (-1) := by rw [rX9_setsFor_x]
  rw [e]
  try dsimp only
  exact ⟨rfl, rfl⟩
def rX9_sums (ki : Int32 → Int32) (ag : Int32 → Int32) (co : Int32 → Int32) (wa : Int32) (nt : Int32 → Int32) (nm : Int32) (se : Int32 → Int32) (what : Int32) (sz : Nat) (cr : Nat) (de : Nat) (sd : Nat) : Int32 × (Int32 → Int32) := (if what < 0 then ((-1), se) else (if what ≤ 1 then (if what = 0 then (((rX4_unlikeTotals ki ag co nt nm se sz cr de sd).1), ((rX4_unlikeTotals ki ag co nt nm se sz cr de sd).2)) else ((rX4_nearestTotal ki ag co wa nt nm sz cr de sd), se)) else ((-1), se)))
set_option maxRecDepth 100000 in
set_option maxHeartbeats 4000000 in
theorem MX9_sums {w : gW} {al : Bool} {tl rn ki ag co pa me dki dag dco dpa dme nt tnt os og cs mo le se ab : Int32 → Int32} {tn rp wa be pr dso drs dwa dbe dpr nm ns np tnm tnb tnc tnd tns tnp ph kh oh pk pc lf cu cd : Int32} {pf : Nat → Option Nat} {pst kst : Nat → gS} {sz bo cr de sd : Nat} (what : Int32) (hs : sz ≤ 9) (hbo : bo < 512) (hcr : cr < 512) (hde : de < 512) (hsd : sd < 512)  : M w gT0 al mX9_sums 0 0 (hC tl tn rn rp ki ag co pa me (nI sd) (nI sz) wa be pr dki dag dco dpa dme dso drs dwa dbe dpr nt nm (nI bo) (nI cr) (nI de) ns np tnt tnm tnb tnc tnd tns tnp pf ph pst kh kst os og oh cs mo le se pk pc lf ab cu cd) [.ref 0, .int what] (gEq (hC tl tn rn rp ki ag co pa me (nI sd) (nI sz) wa be pr dki dag dco dpa dme dso drs dwa dbe dpr nt nm (nI bo) (nI cr) (nI de) ns np tnt tnm tnb tnc tnd tns tnp pf ph pst kh kst os og oh cs mo le ((rX9_sums ki ag co wa nt nm se what sz cr de sd).2) pk pc lf ab cu cd) (some (.int ((rX9_sums ki ag co wa nt nm se what sz cr de sd).1)))) := by
  refine M.of (L0 := [.ref 0, .int what]) (by decide +kernel) (Nat.le_of_ble_eq_true rfl) rfl ?_
  refine g_iload_n dX9_sums_0 rfl 1 rfl rfl ?_
  refine g_if_lt dX9_sums_1 9 rfl 4 rfl (fun c1 => ?_) (fun c1 => ?_)
  · refine g_iconst (-1) dX9_sums_9 10 rfl (by decide) ?_
    refine g_ireturn dX9_sums_10 rfl rfl (Nat.le_refl _) (Nat.le_refl _) ?_
    have e : (rX9_sums ki ag co wa nt nm se what sz cr de sd) = ((-1), se) := by rw [rX9_sums, if_pos c1]
    rw [e]
    try dsimp only
    exact ⟨rfl, rfl⟩
  · refine g_iload_n dX9_sums_4 rfl 5 rfl rfl ?_
    refine g_iconst 1 dX9_sums_5 6 rfl (by decide) ?_
    refine g_icmp_le dX9_sums_6 11 rfl 9 rfl (fun c2 => ?_) (fun c2 => ?_)
    · refine g_iload_n dX9_sums_11 rfl 12 rfl rfl ?_
      refine g_if_ne dX9_sums_12 25 rfl 15 rfl (fun c3 => ?_) (fun c3 => ?_)
      · refine g_aload_n dX9_sums_25 rfl 26 rfl rfl ?_
        refine g_get (v := .ref 74) dX9_sums_26 29 rfl lX9_71 rfl rfl ?_
        refine g_cVv (as := []) (st := []) dX9_sums_29 32 rfl kX9_241 ⟨Nat.le_of_ble_eq_true rfl, Nat.le_of_ble_eq_true rfl⟩ (MX4_nearestTotal (sz := sz) (bo := bo) (cr := cr) (de := de) (sd := sd) (by omega) (by omega)) rfl rfl rfl rfl (Nat.le_of_ble_eq_true rfl) (Nat.le_refl _) (Nat.le_refl _) ?_
        refine g_ireturn dX9_sums_32 rfl rfl (Nat.le_refl _) (Nat.le_refl _) ?_
        have e : (rX9_sums ki ag co wa nt nm se what sz cr de sd) = ((rX4_nearestTotal ki ag co wa nt nm sz cr de sd), se) := by rw [rX9_sums, if_neg c1, if_pos c2, if_neg c3]
        rw [e]
        try dsimp only
        exact ⟨rfl, rfl⟩
      · refine g_aload_n dX9_sums_15 rfl 16 rfl rfl ?_
        refine g_get (v := .ref 74) dX9_sums_16 19 rfl lX9_71 rfl rfl ?_
        refine g_cVv (as := []) (st := []) dX9_sums_19 22 rfl kX9_238 ⟨Nat.le_of_ble_eq_true rfl, Nat.le_of_ble_eq_true rfl⟩ (MX4_unlikeTotals (sz := sz) (bo := bo) (cr := cr) (de := de) (sd := sd) (by omega) (by omega)) rfl rfl rfl rfl (Nat.le_of_ble_eq_true rfl) (Nat.le_refl _) (Nat.le_refl _) ?_
        refine g_goto dX9_sums_22 32 rfl ?_
        refine g_ireturn dX9_sums_32 rfl rfl (Nat.le_refl _) (Nat.le_refl _) ?_
        have e : (rX9_sums ki ag co wa nt nm se what sz cr de sd) = (((rX4_unlikeTotals ki ag co nt nm se sz cr de sd).1), ((rX4_unlikeTotals ki ag co nt nm se sz cr de sd).2)) := by rw [rX9_sums, if_neg c1, if_pos c2, if_pos c3]
        rw [e]
        try dsimp only
        exact ⟨rfl, rfl⟩
    · refine g_iconst (-1) dX9_sums_9 10 rfl (by decide) ?_
      refine g_ireturn dX9_sums_10 rfl rfl (Nat.le_refl _) (Nat.le_refl _) ?_
      have e : (rX9_sums ki ag co wa nt nm se what sz cr de sd) = ((-1), se) := by rw [rX9_sums, if_neg c1, if_neg c2]
      rw [e]
      try dsimp only
      exact ⟨rfl, rfl⟩
def rX9_stays (ki : Int32 → Int32) (ag : Int32 → Int32) (co : Int32 → Int32) (me : Int32 → Int32) (wa : Int32) (be : Int32) (pr : Int32) (nt : Int32 → Int32) (nm : Int32) (ab : Int32 → Int32) (cu : Int32) (cd : Int32) (x : Int32) (pt : Int32) (sz : Nat) (cr : Nat) (de : Nat) (sd : Nat) : Int32 × (Int32 → Int32) × Int32 × Int32 := (if x < 0 then ((-1), ab, cu, cd) else (if 10 < x then ((-1), ab, cu, cd) else (if pt < 0 then ((-1), ab, cu, cd) else (if pt ≤ 1 then (if pt = 0 then (((rX0_reckon ki ag co me wa be pr nt nm ab cu cd x sz cr de sd).2.1), ((rX0_reckon ki ag co me wa be pr nt nm ab cu cd x sz cr de sd).1), ((rX0_reckon ki ag co me wa be pr nt nm ab cu cd x sz cr de sd).2.1), ((rX0_reckon ki ag co me wa be pr nt nm ab cu cd x sz cr de sd).2.2)) else (((rX0_reckon ki ag co me wa be pr nt nm ab cu cd x sz cr de sd).2.2), ((rX0_reckon ki ag co me wa be pr nt nm ab cu cd x sz cr de sd).1), ((rX0_reckon ki ag co me wa be pr nt nm ab cu cd x sz cr de sd).2.1), ((rX0_reckon ki ag co me wa be pr nt nm ab cu cd x sz cr de sd).2.2))) else ((-1), ab, cu, cd)))))
set_option maxRecDepth 100000 in
set_option maxHeartbeats 4000000 in
theorem MX9_stays {w : gW} {al : Bool} {tl rn ki ag co pa me dki dag dco dpa dme nt tnt os og cs mo le se ab : Int32 → Int32} {tn rp wa be pr dso drs dwa dbe dpr nm ns np tnm tnb tnc tnd tns tnp ph kh oh pk pc lf cu cd : Int32} {pf : Nat → Option Nat} {pst kst : Nat → gS} {sz bo cr de sd : Nat} (x : Int32) (pt : Int32) (hs : sz ≤ 9) (hbo : bo < 512) (hcr : cr < 512) (hde : de < 512) (hsd : sd < 512)  : M w gT0 al mX9_stays 0 0 (hC tl tn rn rp ki ag co pa me (nI sd) (nI sz) wa be pr dki dag dco dpa dme dso drs dwa dbe dpr nt nm (nI bo) (nI cr) (nI de) ns np tnt tnm tnb tnc tnd tns tnp pf ph pst kh kst os og oh cs mo le se pk pc lf ab cu cd) [.ref 0, .int x, .int pt] (gEq (hC tl tn rn rp ki ag co pa me (nI sd) (nI sz) wa be pr dki dag dco dpa dme dso drs dwa dbe dpr nt nm (nI bo) (nI cr) (nI de) ns np tnt tnm tnb tnc tnd tns tnp pf ph pst kh kst os og oh cs mo le se pk pc lf ((rX9_stays ki ag co me wa be pr nt nm ab cu cd x pt sz cr de sd).2.1) ((rX9_stays ki ag co me wa be pr nt nm ab cu cd x pt sz cr de sd).2.2.1) ((rX9_stays ki ag co me wa be pr nt nm ab cu cd x pt sz cr de sd).2.2.2)) (some (.int ((rX9_stays ki ag co me wa be pr nt nm ab cu cd x pt sz cr de sd).1)))) := by
  refine M.of (L0 := [.ref 0, .int x, .int pt]) (by decide +kernel) (Nat.le_of_ble_eq_true rfl) rfl ?_
  refine g_iload_n dX9_stays_0 rfl 1 rfl rfl ?_
  refine g_if_lt dX9_stays_1 19 rfl 4 rfl (fun c1 => ?_) (fun c1 => ?_)
  · refine g_iconst (-1) dX9_stays_19 20 rfl (by decide) ?_
    refine g_ireturn dX9_stays_20 rfl rfl (Nat.le_refl _) (Nat.le_refl _) ?_
    have e : (rX9_stays ki ag co me wa be pr nt nm ab cu cd x pt sz cr de sd) = ((-1), ab, cu, cd) := by rw [rX9_stays, if_pos c1]
    rw [e]
    try dsimp only
    exact ⟨rfl, rfl⟩
  · refine g_iload_n dX9_stays_4 rfl 5 rfl rfl ?_
    refine g_bipush 10 dX9_stays_5 7 rfl (by decide) ?_
    refine g_icmp_gt dX9_stays_7 19 rfl 10 rfl (fun c2 => ?_) (fun c2 => ?_)
    · refine g_iconst (-1) dX9_stays_19 20 rfl (by decide) ?_
      refine g_ireturn dX9_stays_20 rfl rfl (Nat.le_refl _) (Nat.le_refl _) ?_
      have e : (rX9_stays ki ag co me wa be pr nt nm ab cu cd x pt sz cr de sd) = ((-1), ab, cu, cd) := by rw [rX9_stays, if_neg c1, if_pos c2]
      rw [e]
      try dsimp only
      exact ⟨rfl, rfl⟩
    · refine g_iload_n dX9_stays_10 rfl 11 rfl rfl ?_
      refine g_if_lt dX9_stays_11 19 rfl 14 rfl (fun c3 => ?_) (fun c3 => ?_)
      · refine g_iconst (-1) dX9_stays_19 20 rfl (by decide) ?_
        refine g_ireturn dX9_stays_20 rfl rfl (Nat.le_refl _) (Nat.le_refl _) ?_
        have e : (rX9_stays ki ag co me wa be pr nt nm ab cu cd x pt sz cr de sd) = ((-1), ab, cu, cd) := by rw [rX9_stays, if_neg c1, if_neg c2, if_pos c3]
        rw [e]
        try dsimp only
        exact ⟨rfl, rfl⟩
      · refine g_iload_n dX9_stays_14 rfl 15 rfl rfl ?_
        refine g_iconst 1 dX9_stays_15 16 rfl (by decide) ?_
        refine g_icmp_le dX9_stays_16 21 rfl 19 rfl (fun c4 => ?_) (fun c4 => ?_)
        · refine g_aload_n dX9_stays_21 rfl 22 rfl rfl ?_
          refine g_get (v := .ref 83) dX9_stays_22 25 rfl lX9_80 rfl rfl ?_
          refine g_iload_n dX9_stays_25 rfl 26 rfl rfl ?_
          refine g_cV0 (as := [.int x]) (st := []) dX9_stays_26 29 rfl kX9_244 ⟨Nat.le_of_ble_eq_true rfl, Nat.le_of_ble_eq_true rfl⟩ (MX0_reckon (sz := sz) (bo := bo) (cr := cr) (de := de) (sd := sd) x (by omega) (by omega)) rfl rfl rfl rfl (Nat.le_of_ble_eq_true rfl) (Nat.le_refl _) (Nat.le_refl _) ?_
          refine g_iload_n dX9_stays_29 rfl 30 rfl rfl ?_
          refine g_if_ne dX9_stays_30 43 rfl 33 rfl (fun c5 => ?_) (fun c5 => ?_)
          · refine g_aload_n dX9_stays_43 rfl 44 rfl rfl ?_
            refine g_get (v := .ref 83) dX9_stays_44 47 rfl lX9_80 rfl rfl ?_
            refine g_get (v := .int ((rX0_reckon ki ag co me wa be pr nt nm ab cu cd x sz cr de sd).2.2)) dX9_stays_47 50 rfl lX9_250 rfl rfl ?_
            refine g_ireturn dX9_stays_50 rfl rfl (Nat.le_refl _) (Nat.le_refl _) ?_
            have e : (rX9_stays ki ag co me wa be pr nt nm ab cu cd x pt sz cr de sd) = (((rX0_reckon ki ag co me wa be pr nt nm ab cu cd x sz cr de sd).2.2), ((rX0_reckon ki ag co me wa be pr nt nm ab cu cd x sz cr de sd).1), ((rX0_reckon ki ag co me wa be pr nt nm ab cu cd x sz cr de sd).2.1), ((rX0_reckon ki ag co me wa be pr nt nm ab cu cd x sz cr de sd).2.2)) := by rw [rX9_stays, if_neg c1, if_neg c2, if_neg c3, if_pos c4, if_neg c5]
            rw [e]
            try dsimp only
            exact ⟨rfl, rfl⟩
          · refine g_aload_n dX9_stays_33 rfl 34 rfl rfl ?_
            refine g_get (v := .ref 83) dX9_stays_34 37 rfl lX9_80 rfl rfl ?_
            refine g_get (v := .int ((rX0_reckon ki ag co me wa be pr nt nm ab cu cd x sz cr de sd).2.1)) dX9_stays_37 40 rfl lX9_247 rfl rfl ?_
            refine g_goto dX9_stays_40 50 rfl ?_
            refine g_ireturn dX9_stays_50 rfl rfl (Nat.le_refl _) (Nat.le_refl _) ?_
            have e : (rX9_stays ki ag co me wa be pr nt nm ab cu cd x pt sz cr de sd) = (((rX0_reckon ki ag co me wa be pr nt nm ab cu cd x sz cr de sd).2.1), ((rX0_reckon ki ag co me wa be pr nt nm ab cu cd x sz cr de sd).1), ((rX0_reckon ki ag co me wa be pr nt nm ab cu cd x sz cr de sd).2.1), ((rX0_reckon ki ag co me wa be pr nt nm ab cu cd x sz cr de sd).2.2)) := by rw [rX9_stays, if_neg c1, if_neg c2, if_neg c3, if_pos c4, if_pos c5]
            rw [e]
            try dsimp only
            exact ⟨rfl, rfl⟩
        · refine g_iconst (-1) dX9_stays_19 20 rfl (by decide) ?_
          refine g_ireturn dX9_stays_20 rfl rfl (Nat.le_refl _) (Nat.le_refl _) ?_
          have e : (rX9_stays ki ag co me wa be pr nt nm ab cu cd x pt sz cr de sd) = ((-1), ab, cu, cd) := by rw [rX9_stays, if_neg c1, if_neg c2, if_neg c3, if_neg c4]
          rw [e]
          try dsimp only
          exact ⟨rfl, rfl⟩
