/-! the class: State -/
theorem bc_all : ∀ a, a < 512 → rJ6_bitCount_0f7a4 (nI a) = rX10_ones (nI a) := by decide +kernel
theorem MJ6_bitCount {w : gW} {al : Bool} {h : gH} (a : Nat) (ha : a < 512) : M w gT0 al mJ6_bitCount_0f7a4 0 0 h [.int (nI a)] (gEq h (some (.int (nI (tOnes a))))) := by
  have q := MJ6_bitCount_0f7a4 (w := w) (al := al) (h := h) (nI a)
  rw [bc_all a ha, (tOnes_all a ha).1] at q
  exact q
theorem and_lt {a b n : Nat} (h : a < n) : a &&& b < n := Nat.lt_of_le_of_lt Nat.and_le_left h
def rX2_everyone (sz : Nat) : Int32 := (nI (2 ^ sz - 1))
set_option maxRecDepth 100000 in
set_option maxHeartbeats 4000000 in
theorem MX2_everyone {w : gW} {al : Bool} {tl rn ki ag co pa me dki dag dco dpa dme nt tnt os og cs mo le se ab : Int32 → Int32} {tn rp so wa be pr dso drs dwa dbe dpr nm nb nc nd ns np tnm tnb tnc tnd tns tnp ph kh oh pk pc lf cu cd : Int32} {pf : Nat → Option Nat} {pst kst : Nat → gS} {sz : Nat} (hs : sz ≤ 9)  : M w gT0 al mX2_everyone 0 0 (hC tl tn rn rp ki ag co pa me so (nI sz) wa be pr dki dag dco dpa dme dso drs dwa dbe dpr nt nm nb nc nd ns np tnt tnm tnb tnc tnd tns tnp pf ph pst kh kst os og oh cs mo le se pk pc lf ab cu cd) [.ref 7] (gEq (hC tl tn rn rp ki ag co pa me so (nI sz) wa be pr dki dag dco dpa dme dso drs dwa dbe dpr nt nm nb nc nd ns np tnt tnm tnb tnc tnd tns tnp pf ph pst kh kst os og oh cs mo le se pk pc lf ab cu cd) (some (.int (rX2_everyone sz)))) := by
  refine M.of (L0 := [.ref 7]) (by decide +kernel) (Nat.le_of_ble_eq_true rfl) rfl ?_
  refine g_iconst 1 dX2_everyone_0 1 rfl (by decide) ?_
  refine g_aload_n dX2_everyone_1 rfl 2 rfl rfl ?_
  refine g_get (v := .int (nI sz)) dX2_everyone_2 5 rfl lX2_39 rfl rfl ?_
  refine g_ishl' dX2_everyone_5 6 rfl (nI (2 ^ sz)) (z_1shl (by omega)) ?_
  refine g_iconst 1 dX2_everyone_6 7 rfl (by decide) ?_
  refine g_isub' dX2_everyone_7 8 rfl (nI (2 ^ sz - 1)) (pk_sub (b := 1) Nat.one_le_two_pow) ?_
  refine g_ireturn dX2_everyone_8 rfl rfl (Nat.le_refl _) (Nat.le_refl _) ?_
  have e : (rX2_everyone sz) = (nI (2 ^ sz - 1)) := by rw [rX2_everyone]
  rw [e]
  exact ⟨rfl, rfl⟩
theorem MX2_everyone' {w : gW} {al : Bool} {tl rn ki ag co pa me dki dag dco dpa dme nt tnt os og cs mo le se ab : Int32 → Int32} {tn rp so wa be pr dso drs dwa dbe dpr nm nb nc nd ns np tnm tnb tnc tnd tns tnp ph kh oh pk pc lf cu cd : Int32} {pf : Nat → Option Nat} {pst kst : Nat → gS} {sz : Nat} (hs : sz ≤ 9)  : M w gT0 al mX2_everyone 0 0 (hC tl tn rn rp ki ag co pa me so (nI sz) wa be pr dki dag dco dpa dme dso drs dwa dbe dpr nt nm nb nc nd ns np tnt tnm tnb tnc tnd tns tnp pf ph pst kh kst os og oh cs mo le se pk pc lf ab cu cd) [.ref 7] (gEq (hC tl tn rn rp ki ag co pa me so (nI sz) wa be pr dki dag dco dpa dme dso drs dwa dbe dpr nt nm nb nc nd ns np tnt tnm tnb tnc tnd tns tnp pf ph pst kh kst os og oh cs mo le se pk pc lf ab cu cd) (some (.int (nI (2 ^ sz - 1))))) := by
  have q := MX2_everyone (w := w) (al := al) (tl := tl) (tn := tn) (rn := rn) (rp := rp) (ki := ki) (ag := ag) (co := co) (pa := pa) (me := me) (so := so) (wa := wa) (be := be) (pr := pr) (dki := dki) (dag := dag) (dco := dco) (dpa := dpa) (dme := dme) (dso := dso) (drs := drs) (dwa := dwa) (dbe := dbe) (dpr := dpr) (nt := nt) (nm := nm) (nb := nb) (nc := nc) (nd := nd) (ns := ns) (np := np) (tnt := tnt) (tnm := tnm) (tnb := tnb) (tnc := tnc) (tnd := tnd) (tns := tns) (tnp := tnp) (pf := pf) (ph := ph) (pst := pst) (kh := kh) (kst := kst) (os := os) (og := og) (oh := oh) (cs := cs) (mo := mo) (le := le) (se := se) (pk := pk) (pc := pc) (lf := lf) (ab := ab) (cu := cu) (cd := cd) (sz := sz) hs
  rw [(show rX2_everyone sz = nI (2 ^ sz - 1) from rfl)] at q
  exact q
/-- those that remain -/
def remN (sz cr de : Nat) : Nat := andN (andN (2 ^ sz - 1) cr) de
theorem remN_lt {sz cr de : Nat} (hs : sz ≤ 9) : remN sz cr de < 512 := by
  have h1 : remN sz cr de ≤ 2 ^ sz - 1 := Nat.le_trans andN_le andN_le
  have h2 := pw9 hs
  omega
def rX6_remaining_29 (sz : Nat) (cr : Nat) (de : Nat) : Int32 := (nI (andN (andN (2 ^ sz - 1) cr) de))
set_option maxRecDepth 100000 in
set_option maxHeartbeats 4000000 in
theorem MX6_remaining_29 {w : gW} {al : Bool} {tl rn ki ag co pa me dki dag dco dpa dme nt tnt os og cs mo le se ab : Int32 → Int32} {tn rp wa be pr dso drs dwa dbe dpr nm ns np tnm tnb tnc tnd tns tnp ph kh oh pk pc lf cu cd : Int32} {pf : Nat → Option Nat} {pst kst : Nat → gS} {sz bo cr de sd : Nat} (hs : sz ≤ 9)  : M w gT0 al mX6_remaining 0 0 (hC tl tn rn rp ki ag co pa me (nI sd) (nI sz) wa be pr dki dag dco dpa dme dso drs dwa dbe dpr nt nm (nI bo) (nI cr) (nI de) ns np tnt tnm tnb tnc tnd tns tnp pf ph pst kh kst os og oh cs mo le se pk pc lf ab cu cd) [.ref 29] (gEq (hC tl tn rn rp ki ag co pa me (nI sd) (nI sz) wa be pr dki dag dco dpa dme dso drs dwa dbe dpr nt nm (nI bo) (nI cr) (nI de) ns np tnt tnm tnb tnc tnd tns tnp pf ph pst kh kst os og oh cs mo le se pk pc lf ab cu cd) (some (.int (rX6_remaining_29 sz cr de)))) := by
  refine M.of (L0 := [.ref 29]) (by decide +kernel) (Nat.le_of_ble_eq_true rfl) rfl ?_
  refine g_aload_n dX6_remaining_0 rfl 1 rfl rfl ?_
  refine g_get (v := .ref 7) dX6_remaining_1 4 rfl lX6_20 rfl rfl ?_
  refine g_cVv (as := []) (st := []) dX6_remaining_4 7 rfl kX6_54 ⟨Nat.le_of_ble_eq_true rfl, Nat.le_of_ble_eq_true rfl⟩ (MX2_everyone' (sz := sz) (by omega)) rfl rfl rfl rfl (Nat.le_of_ble_eq_true rfl) (Nat.le_refl _) (Nat.le_refl _) ?_
  refine g_aload_n dX6_remaining_7 rfl 8 rfl rfl ?_
  refine g_get (v := .int (nI cr)) dX6_remaining_8 11 rfl lX6_34 rfl rfl ?_
  refine g_iconst (-1) dX6_remaining_11 12 rfl (by decide) ?_
  refine g_ixor dX6_remaining_12 13 rfl ?_
  refine g_iand' dX6_remaining_13 14 rfl (nI (andN (2 ^ sz - 1) cr)) (z_andN _ _) ?_
  refine g_aload_n dX6_remaining_14 rfl 15 rfl rfl ?_
  refine g_get (v := .int (nI de)) dX6_remaining_15 18 rfl lX6_37 rfl rfl ?_
  refine g_iconst (-1) dX6_remaining_18 19 rfl (by decide) ?_
  refine g_ixor dX6_remaining_19 20 rfl ?_
  refine g_iand' dX6_remaining_20 21 rfl (nI (andN (andN (2 ^ sz - 1) cr) de)) (z_andN _ _) ?_
  refine g_ireturn dX6_remaining_21 rfl rfl (Nat.le_refl _) (Nat.le_refl _) ?_
  have e : (rX6_remaining_29 sz cr de) = (nI (andN (andN (2 ^ sz - 1) cr) de)) := by rw [rX6_remaining_29]
  rw [e]
  exact ⟨rfl, rfl⟩
set_option maxRecDepth 100000 in
set_option maxHeartbeats 4000000 in
theorem MX6_remaining_32 {w : gW} {al : Bool} {tl rn ki ag co pa me dki dag dco dpa dme nt tnt os og cs mo le se ab : Int32 → Int32} {tn rp wa be pr dso drs dwa dbe dpr nm nb nc nd ns np tnm tns tnp ph kh oh pk pc lf cu cd : Int32} {pf : Nat → Option Nat} {pst kst : Nat → gS} {sz bo cr de sd : Nat} (hs : sz ≤ 9)  : M w gT0 al mX6_remaining 0 0 (hC tl tn rn rp ki ag co pa me (nI sd) (nI sz) wa be pr dki dag dco dpa dme dso drs dwa dbe dpr nt nm nb nc nd ns np tnt tnm (nI bo) (nI cr) (nI de) tns tnp pf ph pst kh kst os og oh cs mo le se pk pc lf ab cu cd) [.ref 32] (gEq (hC tl tn rn rp ki ag co pa me (nI sd) (nI sz) wa be pr dki dag dco dpa dme dso drs dwa dbe dpr nt nm nb nc nd ns np tnt tnm (nI bo) (nI cr) (nI de) tns tnp pf ph pst kh kst os og oh cs mo le se pk pc lf ab cu cd) (some (.int (rX6_remaining_29 sz cr de)))) := by
  refine M.of (L0 := [.ref 32]) (by decide +kernel) (Nat.le_of_ble_eq_true rfl) rfl ?_
  refine g_aload_n dX6_remaining_0 rfl 1 rfl rfl ?_
  refine g_get (v := .ref 7) dX6_remaining_1 4 rfl lX6_20 rfl rfl ?_
  refine g_cVv (as := []) (st := []) dX6_remaining_4 7 rfl kX6_54 ⟨Nat.le_of_ble_eq_true rfl, Nat.le_of_ble_eq_true rfl⟩ (MX2_everyone' (sz := sz) (by omega)) rfl rfl rfl rfl (Nat.le_of_ble_eq_true rfl) (Nat.le_refl _) (Nat.le_refl _) ?_
  refine g_aload_n dX6_remaining_7 rfl 8 rfl rfl ?_
  refine g_get (v := .int (nI cr)) dX6_remaining_8 11 rfl lX6_34 rfl rfl ?_
  refine g_iconst (-1) dX6_remaining_11 12 rfl (by decide) ?_
  refine g_ixor dX6_remaining_12 13 rfl ?_
  refine g_iand' dX6_remaining_13 14 rfl (nI (andN (2 ^ sz - 1) cr)) (z_andN _ _) ?_
  refine g_aload_n dX6_remaining_14 rfl 15 rfl rfl ?_
  refine g_get (v := .int (nI de)) dX6_remaining_15 18 rfl lX6_37 rfl rfl ?_
  refine g_iconst (-1) dX6_remaining_18 19 rfl (by decide) ?_
  refine g_ixor dX6_remaining_19 20 rfl ?_
  refine g_iand' dX6_remaining_20 21 rfl (nI (andN (andN (2 ^ sz - 1) cr) de)) (z_andN _ _) ?_
  refine g_ireturn dX6_remaining_21 rfl rfl (Nat.le_refl _) (Nat.le_refl _) ?_
  have e : (rX6_remaining_29 sz cr de) = (nI (andN (andN (2 ^ sz - 1) cr) de)) := by rw [rX6_remaining_29]
  rw [e]
  exact ⟨rfl, rfl⟩
theorem MX6_remaining_29' {w : gW} {al : Bool} {tl rn ki ag co pa me dki dag dco dpa dme nt tnt os og cs mo le se ab : Int32 → Int32} {tn rp wa be pr dso drs dwa dbe dpr nm ns np tnm tnb tnc tnd tns tnp ph kh oh pk pc lf cu cd : Int32} {pf : Nat → Option Nat} {pst kst : Nat → gS} {sz bo cr de sd : Nat} (hs : sz ≤ 9)  : M w gT0 al mX6_remaining 0 0 (hC tl tn rn rp ki ag co pa me (nI sd) (nI sz) wa be pr dki dag dco dpa dme dso drs dwa dbe dpr nt nm (nI bo) (nI cr) (nI de) ns np tnt tnm tnb tnc tnd tns tnp pf ph pst kh kst os og oh cs mo le se pk pc lf ab cu cd) [.ref 29] (gEq (hC tl tn rn rp ki ag co pa me (nI sd) (nI sz) wa be pr dki dag dco dpa dme dso drs dwa dbe dpr nt nm (nI bo) (nI cr) (nI de) ns np tnt tnm tnb tnc tnd tns tnp pf ph pst kh kst os og oh cs mo le se pk pc lf ab cu cd) (some (.int (nI (remN sz cr de))))) := by
  have q := MX6_remaining_29 (w := w) (al := al) (tl := tl) (tn := tn) (rn := rn) (rp := rp) (ki := ki) (ag := ag) (co := co) (pa := pa) (me := me) (wa := wa) (be := be) (pr := pr) (dki := dki) (dag := dag) (dco := dco) (dpa := dpa) (dme := dme) (dso := dso) (drs := drs) (dwa := dwa) (dbe := dbe) (dpr := dpr) (nt := nt) (nm := nm) (ns := ns) (np := np) (tnt := tnt) (tnm := tnm) (tnb := tnb) (tnc := tnc) (tnd := tnd) (tns := tns) (tnp := tnp) (pf := pf) (ph := ph) (pst := pst) (kh := kh) (kst := kst) (os := os) (og := og) (oh := oh) (cs := cs) (mo := mo) (le := le) (se := se) (pk := pk) (pc := pc) (lf := lf) (ab := ab) (cu := cu) (cd := cd) (sz := sz) (bo := bo) (cr := cr) (de := de) (sd := sd) hs
  rw [(show rX6_remaining_29 sz cr de = nI (remN sz cr de) from rfl)] at q
  exact q
theorem MX6_remaining_32' {w : gW} {al : Bool} {tl rn ki ag co pa me dki dag dco dpa dme nt tnt os og cs mo le se ab : Int32 → Int32} {tn rp wa be pr dso drs dwa dbe dpr nm nb nc nd ns np tnm tns tnp ph kh oh pk pc lf cu cd : Int32} {pf : Nat → Option Nat} {pst kst : Nat → gS} {sz bo cr de sd : Nat} (hs : sz ≤ 9)  : M w gT0 al mX6_remaining 0 0 (hC tl tn rn rp ki ag co pa me (nI sd) (nI sz) wa be pr dki dag dco dpa dme dso drs dwa dbe dpr nt nm nb nc nd ns np tnt tnm (nI bo) (nI cr) (nI de) tns tnp pf ph pst kh kst os og oh cs mo le se pk pc lf ab cu cd) [.ref 32] (gEq (hC tl tn rn rp ki ag co pa me (nI sd) (nI sz) wa be pr dki dag dco dpa dme dso drs dwa dbe dpr nt nm nb nc nd ns np tnt tnm (nI bo) (nI cr) (nI de) tns tnp pf ph pst kh kst os og oh cs mo le se pk pc lf ab cu cd) (some (.int (nI (remN sz cr de))))) := by
  have q := MX6_remaining_32 (w := w) (al := al) (tl := tl) (tn := tn) (rn := rn) (rp := rp) (ki := ki) (ag := ag) (co := co) (pa := pa) (me := me) (wa := wa) (be := be) (pr := pr) (dki := dki) (dag := dag) (dco := dco) (dpa := dpa) (dme := dme) (dso := dso) (drs := drs) (dwa := dwa) (dbe := dbe) (dpr := dpr) (nt := nt) (nm := nm) (nb := nb) (nc := nc) (nd := nd) (ns := ns) (np := np) (tnt := tnt) (tnm := tnm) (tns := tns) (tnp := tnp) (pf := pf) (ph := ph) (pst := pst) (kh := kh) (kst := kst) (os := os) (og := og) (oh := oh) (cs := cs) (mo := mo) (le := le) (se := se) (pk := pk) (pc := pc) (lf := lf) (ab := ab) (cu := cu) (cd := cd) (sz := sz) (bo := bo) (cr := cr) (de := de) (sd := sd) hs
  rw [(show rX6_remaining_29 sz cr de = nI (remN sz cr de) from rfl)] at q
  exact q
def fX6_present_4_29 (co : Int32 → Int32) (nm : Int32) : Nat → (Nat) → (Nat)
  | i, u0 => (if nm < (co (nI i)) then u0 else (u0 ||| (2 ^ i)))
set_option maxRecDepth 100000 in
set_option maxHeartbeats 4000000 in
theorem LX6_present_4_29 {w : gW} {al : Bool} {tl rn ki ag co pa me dki dag dco dpa dme nt tnt os og cs mo le se ab : Int32 → Int32} {tn rp wa be pr dso drs dwa dbe dpr nm ns np tnm tnb tnc tnd tns tnp ph kh oh pk pc lf cu cd : Int32} {pf : Nat → Option Nat} {pst kst : Nat → gS} {n : Nat} {P : gP} {sz bo cr de sd : Nat} (hs : sz ≤ 9)  : ∀ (d i : Nat) (u0 : Nat), i + d = sz → G w gT0 al n mX6_present 0 0 P 0 0 (hC tl tn rn rp ki ag co pa me (nI sd) (nI sz) wa be pr dki dag dco dpa dme dso drs dwa dbe dpr nt nm (nI bo) (nI cr) (nI de) ns np tnt tnm tnb tnc tnd tns tnp pf ph pst kh kst os og oh cs mo le se pk pc lf ab cu cd) 45 [.ref 29, .int (nI (gLp (fX6_present_4_29 co nm) d i u0)), .int (nI sz)] [] → G w gT0 al n mX6_present 0 0 P 0 0 (hC tl tn rn rp ki ag co pa me (nI sd) (nI sz) wa be pr dki dag dco dpa dme dso drs dwa dbe dpr nt nm (nI bo) (nI cr) (nI de) ns np tnt tnm tnb tnc tnd tns tnp pf ph pst kh kst os og oh cs mo le se pk pc lf ab cu cd) 4 [.ref 29, .int (nI u0), .int (nI i)] [] := by
  intro d
  induction d with
  | zero =>
    intro i u0 hi k
    have hN : i = sz := by omega
    rw [hN]
    rw [hN] at k
    refine g_iload_n dX6_present_4 rfl 5 rfl rfl ?_
    refine g_aload_n dX6_present_5 rfl 6 rfl rfl ?_
    refine g_get (v := .ref 7) dX6_present_6 9 rfl lX6_20 rfl rfl ?_
    refine g_get (v := .int (nI sz)) dX6_present_9 12 rfl lX6_60 rfl rfl ?_
    refine g_icmp_ge dX6_present_12 45 rfl 15 rfl (fun _ => ?_) (fun c => absurd (nI_le (Nat.le_refl _) (by omega)) c)
    exact k
  | succ d ih =>
    intro i u0 hi k
    refine g_iload_n dX6_present_4 rfl 5 rfl rfl ?_
    refine g_aload_n dX6_present_5 rfl 6 rfl rfl ?_
    refine g_get (v := .ref 7) dX6_present_6 9 rfl lX6_20 rfl rfl ?_
    refine g_get (v := .int (nI sz)) dX6_present_9 12 rfl lX6_60 rfl rfl ?_
    refine g_icmp_ge dX6_present_12 45 rfl 15 rfl (fun c => absurd c (nI_ge (by omega) (by omega))) (fun _ => ?_)
    refine g_aload_n dX6_present_15 rfl 16 rfl rfl ?_
    refine g_get (v := .ref 7) dX6_present_16 19 rfl lX6_20 rfl rfl ?_
    refine g_get (v := .ref 12) dX6_present_19 22 rfl lX6_63 rfl rfl ?_
    refine g_iload_n dX6_present_22 rfl 23 rfl rfl ?_
    refine g_cVv (as := [.int (nI i)]) (st := []) dX6_present_23 26 rfl kX6_46 ⟨Nat.le_of_ble_eq_true rfl, Nat.le_of_ble_eq_true rfl⟩ (MX3_atN (k := 12) (j := 13) (N := 9) (f := co) rfl rfl (by decide) i (by omega)) rfl rfl rfl rfl (Nat.le_of_ble_eq_true rfl) (Nat.le_refl _) (Nat.le_refl _) ?_
    refine g_aload_n dX6_present_26 rfl 27 rfl rfl ?_
    refine g_get (v := .int nm) dX6_present_27 30 rfl lX6_27 rfl rfl ?_
    refine g_icmp_gt dX6_present_30 39 rfl 33 rfl (fun c1 => ?_) (fun c1 => ?_)
    · refine g_iinc2 dX6_present_39 42 rfl 1 (by decide) (nI (i + 1)) (nI_add _ 1) (by decide) rfl ?_
      refine g_goto dX6_present_42 4 rfl ?_
      have e : (fX6_present_4_29 co nm) i u0 = u0 := by rw [fX6_present_4_29, if_pos c1]
      refine ih (i + 1) u0 (by omega) ?_
      rw [← e]
      exact k
    · refine g_iload_n dX6_present_33 rfl 34 rfl rfl ?_
      refine g_iconst 1 dX6_present_34 35 rfl (by decide) ?_
      refine g_iload_n dX6_present_35 rfl 36 rfl rfl ?_
      refine g_ishl' dX6_present_36 37 rfl (nI (2 ^ i)) (z_1shl (by omega)) ?_
      refine g_ior' dX6_present_37 38 rfl (nI (u0 ||| (2 ^ i))) (z_or _ _) ?_
      refine g_istore1 dX6_present_38 39 rfl (by decide) rfl ?_
      refine g_iinc2 dX6_present_39 42 rfl 1 (by decide) (nI (i + 1)) (nI_add _ 1) (by decide) rfl ?_
      refine g_goto dX6_present_42 4 rfl ?_
      have e : (fX6_present_4_29 co nm) i u0 = (u0 ||| (2 ^ i)) := by rw [fX6_present_4_29, if_neg c1]
      refine ih (i + 1) (u0 ||| (2 ^ i)) (by omega) ?_
      rw [← e]
      exact k
def rX6_present_29 (co : Int32 → Int32) (nm : Int32) (sz : Nat) (cr : Nat) (de : Nat) : Int32 := (nI ((gLp (fX6_present_4_29 co nm) sz 0 0) &&& (remN sz cr de)))
set_option maxRecDepth 100000 in
set_option maxHeartbeats 4000000 in
theorem MX6_present_29 {w : gW} {al : Bool} {tl rn ki ag co pa me dki dag dco dpa dme nt tnt os og cs mo le se ab : Int32 → Int32} {tn rp wa be pr dso drs dwa dbe dpr nm ns np tnm tnb tnc tnd tns tnp ph kh oh pk pc lf cu cd : Int32} {pf : Nat → Option Nat} {pst kst : Nat → gS} {sz bo cr de sd : Nat} (hs : sz ≤ 9)  : M w gT0 al mX6_present 0 0 (hC tl tn rn rp ki ag co pa me (nI sd) (nI sz) wa be pr dki dag dco dpa dme dso drs dwa dbe dpr nt nm (nI bo) (nI cr) (nI de) ns np tnt tnm tnb tnc tnd tns tnp pf ph pst kh kst os og oh cs mo le se pk pc lf ab cu cd) [.ref 29] (gEq (hC tl tn rn rp ki ag co pa me (nI sd) (nI sz) wa be pr dki dag dco dpa dme dso drs dwa dbe dpr nt nm (nI bo) (nI cr) (nI de) ns np tnt tnm tnb tnc tnd tns tnp pf ph pst kh kst os og oh cs mo le se pk pc lf ab cu cd) (some (.int (rX6_present_29 co nm sz cr de)))) := by
  refine M.of (L0 := [.ref 29, gF, gF]) (by decide +kernel) (Nat.le_of_ble_eq_true rfl) rfl ?_
  refine g_iconst 0 dX6_present_0 1 rfl (by decide) ?_
  refine g_istore1 dX6_present_1 2 rfl (by decide) rfl ?_
  refine g_iconst 0 dX6_present_2 3 rfl (by decide) ?_
  refine g_istore2 dX6_present_3 4 rfl (by decide) rfl ?_
  refine LX6_present_4_29  (by omega) sz 0 0 (by omega) ?_
  refine g_iload_n dX6_present_45 rfl 46 rfl rfl ?_
  refine g_aload_n dX6_present_46 rfl 47 rfl rfl ?_
  refine g_cVv (as := []) (st := [.int (nI (gLp (fX6_present_4_29 co nm) sz 0 0))]) dX6_present_47 50 rfl kX6_66 ⟨Nat.le_of_ble_eq_true rfl, Nat.le_of_ble_eq_true rfl⟩ (MX6_remaining_29' (sz := sz) (bo := bo) (cr := cr) (de := de) (sd := sd) (by omega)) rfl rfl rfl rfl (Nat.le_of_ble_eq_true rfl) (Nat.le_refl _) (Nat.le_refl _) ?_
  refine g_iand' dX6_present_50 51 rfl (nI ((gLp (fX6_present_4_29 co nm) sz 0 0) &&& (remN sz cr de))) (z_and _ _) ?_
  refine g_ireturn dX6_present_51 rfl rfl (Nat.le_refl _) (Nat.le_refl _) ?_
  have e : (rX6_present_29 co nm sz cr de) = (nI ((gLp (fX6_present_4_29 co nm) sz 0 0) &&& (remN sz cr de))) := by rw [rX6_present_29]
  rw [e]
  exact ⟨rfl, rfl⟩
set_option maxRecDepth 100000 in
set_option maxHeartbeats 4000000 in
theorem LX6_present_4_32 {w : gW} {al : Bool} {tl rn ki ag co pa me dki dag dco dpa dme nt tnt os og cs mo le se ab : Int32 → Int32} {tn rp wa be pr dso drs dwa dbe dpr nm nb nc nd ns np tnm tns tnp ph kh oh pk pc lf cu cd : Int32} {pf : Nat → Option Nat} {pst kst : Nat → gS} {n : Nat} {P : gP} {sz bo cr de sd : Nat} (hs : sz ≤ 9)  : ∀ (d i : Nat) (u0 : Nat), i + d = sz → G w gT0 al n mX6_present 0 0 P 0 0 (hC tl tn rn rp ki ag co pa me (nI sd) (nI sz) wa be pr dki dag dco dpa dme dso drs dwa dbe dpr nt nm nb nc nd ns np tnt tnm (nI bo) (nI cr) (nI de) tns tnp pf ph pst kh kst os og oh cs mo le se pk pc lf ab cu cd) 45 [.ref 32, .int (nI (gLp (fX6_present_4_29 co tnm) d i u0)), .int (nI sz)] [] → G w gT0 al n mX6_present 0 0 P 0 0 (hC tl tn rn rp ki ag co pa me (nI sd) (nI sz) wa be pr dki dag dco dpa dme dso drs dwa dbe dpr nt nm nb nc nd ns np tnt tnm (nI bo) (nI cr) (nI de) tns tnp pf ph pst kh kst os og oh cs mo le se pk pc lf ab cu cd) 4 [.ref 32, .int (nI u0), .int (nI i)] [] := by
  intro d
  induction d with
  | zero =>
    intro i u0 hi k
    have hN : i = sz := by omega
    rw [hN]
    rw [hN] at k
    refine g_iload_n dX6_present_4 rfl 5 rfl rfl ?_
    refine g_aload_n dX6_present_5 rfl 6 rfl rfl ?_
    refine g_get (v := .ref 7) dX6_present_6 9 rfl lX6_20 rfl rfl ?_
    refine g_get (v := .int (nI sz)) dX6_present_9 12 rfl lX6_60 rfl rfl ?_
    refine g_icmp_ge dX6_present_12 45 rfl 15 rfl (fun _ => ?_) (fun c => absurd (nI_le (Nat.le_refl _) (by omega)) c)
    exact k
  | succ d ih =>
    intro i u0 hi k
    refine g_iload_n dX6_present_4 rfl 5 rfl rfl ?_
    refine g_aload_n dX6_present_5 rfl 6 rfl rfl ?_
    refine g_get (v := .ref 7) dX6_present_6 9 rfl lX6_20 rfl rfl ?_
    refine g_get (v := .int (nI sz)) dX6_present_9 12 rfl lX6_60 rfl rfl ?_
    refine g_icmp_ge dX6_present_12 45 rfl 15 rfl (fun c => absurd c (nI_ge (by omega) (by omega))) (fun _ => ?_)
    refine g_aload_n dX6_present_15 rfl 16 rfl rfl ?_
    refine g_get (v := .ref 7) dX6_present_16 19 rfl lX6_20 rfl rfl ?_
    refine g_get (v := .ref 12) dX6_present_19 22 rfl lX6_63 rfl rfl ?_
    refine g_iload_n dX6_present_22 rfl 23 rfl rfl ?_
    refine g_cVv (as := [.int (nI i)]) (st := []) dX6_present_23 26 rfl kX6_46 ⟨Nat.le_of_ble_eq_true rfl, Nat.le_of_ble_eq_true rfl⟩ (MX3_atN (k := 12) (j := 13) (N := 9) (f := co) rfl rfl (by decide) i (by omega)) rfl rfl rfl rfl (Nat.le_of_ble_eq_true rfl) (Nat.le_refl _) (Nat.le_refl _) ?_
    refine g_aload_n dX6_present_26 rfl 27 rfl rfl ?_
    refine g_get (v := .int tnm) dX6_present_27 30 rfl lX6_27 rfl rfl ?_
    refine g_icmp_gt dX6_present_30 39 rfl 33 rfl (fun c1 => ?_) (fun c1 => ?_)
    · refine g_iinc2 dX6_present_39 42 rfl 1 (by decide) (nI (i + 1)) (nI_add _ 1) (by decide) rfl ?_
      refine g_goto dX6_present_42 4 rfl ?_
      have e : (fX6_present_4_29 co tnm) i u0 = u0 := by rw [fX6_present_4_29, if_pos c1]
      refine ih (i + 1) u0 (by omega) ?_
      rw [← e]
      exact k
    · refine g_iload_n dX6_present_33 rfl 34 rfl rfl ?_
      refine g_iconst 1 dX6_present_34 35 rfl (by decide) ?_
      refine g_iload_n dX6_present_35 rfl 36 rfl rfl ?_
      refine g_ishl' dX6_present_36 37 rfl (nI (2 ^ i)) (z_1shl (by omega)) ?_
      refine g_ior' dX6_present_37 38 rfl (nI (u0 ||| (2 ^ i))) (z_or _ _) ?_
      refine g_istore1 dX6_present_38 39 rfl (by decide) rfl ?_
      refine g_iinc2 dX6_present_39 42 rfl 1 (by decide) (nI (i + 1)) (nI_add _ 1) (by decide) rfl ?_
      refine g_goto dX6_present_42 4 rfl ?_
      have e : (fX6_present_4_29 co tnm) i u0 = (u0 ||| (2 ^ i)) := by rw [fX6_present_4_29, if_neg c1]
      refine ih (i + 1) (u0 ||| (2 ^ i)) (by omega) ?_
      rw [← e]
      exact k
set_option maxRecDepth 100000 in
set_option maxHeartbeats 4000000 in
theorem MX6_present_32 {w : gW} {al : Bool} {tl rn ki ag co pa me dki dag dco dpa dme nt tnt os og cs mo le se ab : Int32 → Int32} {tn rp wa be pr dso drs dwa dbe dpr nm nb nc nd ns np tnm tns tnp ph kh oh pk pc lf cu cd : Int32} {pf : Nat → Option Nat} {pst kst : Nat → gS} {sz bo cr de sd : Nat} (hs : sz ≤ 9)  : M w gT0 al mX6_present 0 0 (hC tl tn rn rp ki ag co pa me (nI sd) (nI sz) wa be pr dki dag dco dpa dme dso drs dwa dbe dpr nt nm nb nc nd ns np tnt tnm (nI bo) (nI cr) (nI de) tns tnp pf ph pst kh kst os og oh cs mo le se pk pc lf ab cu cd) [.ref 32] (gEq (hC tl tn rn rp ki ag co pa me (nI sd) (nI sz) wa be pr dki dag dco dpa dme dso drs dwa dbe dpr nt nm nb nc nd ns np tnt tnm (nI bo) (nI cr) (nI de) tns tnp pf ph pst kh kst os og oh cs mo le se pk pc lf ab cu cd) (some (.int (rX6_present_29 co tnm sz cr de)))) := by
  refine M.of (L0 := [.ref 32, gF, gF]) (by decide +kernel) (Nat.le_of_ble_eq_true rfl) rfl ?_
  refine g_iconst 0 dX6_present_0 1 rfl (by decide) ?_
  refine g_istore1 dX6_present_1 2 rfl (by decide) rfl ?_
  refine g_iconst 0 dX6_present_2 3 rfl (by decide) ?_
  refine g_istore2 dX6_present_3 4 rfl (by decide) rfl ?_
  refine LX6_present_4_32  (by omega) sz 0 0 (by omega) ?_
  refine g_iload_n dX6_present_45 rfl 46 rfl rfl ?_
  refine g_aload_n dX6_present_46 rfl 47 rfl rfl ?_
  refine g_cVv (as := []) (st := [.int (nI (gLp (fX6_present_4_29 co tnm) sz 0 0))]) dX6_present_47 50 rfl kX6_66 ⟨Nat.le_of_ble_eq_true rfl, Nat.le_of_ble_eq_true rfl⟩ (MX6_remaining_32' (sz := sz) (bo := bo) (cr := cr) (de := de) (sd := sd) (by omega)) rfl rfl rfl rfl (Nat.le_of_ble_eq_true rfl) (Nat.le_refl _) (Nat.le_refl _) ?_
  refine g_iand' dX6_present_50 51 rfl (nI ((gLp (fX6_present_4_29 co tnm) sz 0 0) &&& (remN sz cr de))) (z_and _ _) ?_
  refine g_ireturn dX6_present_51 rfl rfl (Nat.le_refl _) (Nat.le_refl _) ?_
  have e : (rX6_present_29 co tnm sz cr de) = (nI ((gLp (fX6_present_4_29 co tnm) sz 0 0) &&& (remN sz cr de))) := by rw [rX6_present_29]
  rw [e]
  exact ⟨rfl, rfl⟩
/-- those on the quay and aboard -/
def presN (co : Int32 → Int32) (nm : Int32) (sz cr de : Nat) : Nat := (gLp (fX6_present_4_29 co nm) sz 0 0) &&& (remN sz cr de)
theorem presN_lt {co : Int32 → Int32} {nm : Int32} {sz cr de : Nat} (hs : sz ≤ 9) : presN co nm sz cr de < 512 := Nat.lt_of_le_of_lt Nat.and_le_right (remN_lt hs)
theorem MX6_present_29' {w : gW} {al : Bool} {tl rn ki ag co pa me dki dag dco dpa dme nt tnt os og cs mo le se ab : Int32 → Int32} {tn rp wa be pr dso drs dwa dbe dpr nm ns np tnm tnb tnc tnd tns tnp ph kh oh pk pc lf cu cd : Int32} {pf : Nat → Option Nat} {pst kst : Nat → gS} {sz bo cr de sd : Nat} (hs : sz ≤ 9)  : M w gT0 al mX6_present 0 0 (hC tl tn rn rp ki ag co pa me (nI sd) (nI sz) wa be pr dki dag dco dpa dme dso drs dwa dbe dpr nt nm (nI bo) (nI cr) (nI de) ns np tnt tnm tnb tnc tnd tns tnp pf ph pst kh kst os og oh cs mo le se pk pc lf ab cu cd) [.ref 29] (gEq (hC tl tn rn rp ki ag co pa me (nI sd) (nI sz) wa be pr dki dag dco dpa dme dso drs dwa dbe dpr nt nm (nI bo) (nI cr) (nI de) ns np tnt tnm tnb tnc tnd tns tnp pf ph pst kh kst os og oh cs mo le se pk pc lf ab cu cd) (some (.int (nI (presN co nm sz cr de))))) := by
  have q := MX6_present_29 (w := w) (al := al) (tl := tl) (tn := tn) (rn := rn) (rp := rp) (ki := ki) (ag := ag) (co := co) (pa := pa) (me := me) (wa := wa) (be := be) (pr := pr) (dki := dki) (dag := dag) (dco := dco) (dpa := dpa) (dme := dme) (dso := dso) (drs := drs) (dwa := dwa) (dbe := dbe) (dpr := dpr) (nt := nt) (nm := nm) (ns := ns) (np := np) (tnt := tnt) (tnm := tnm) (tnb := tnb) (tnc := tnc) (tnd := tnd) (tns := tns) (tnp := tnp) (pf := pf) (ph := ph) (pst := pst) (kh := kh) (kst := kst) (os := os) (og := og) (oh := oh) (cs := cs) (mo := mo) (le := le) (se := se) (pk := pk) (pc := pc) (lf := lf) (ab := ab) (cu := cu) (cd := cd) (sz := sz) (bo := bo) (cr := cr) (de := de) (sd := sd) hs
  rw [(show rX6_present_29 co nm sz cr de = nI (presN co nm sz cr de) from rfl)] at q
  exact q
theorem MX6_present_32' {w : gW} {al : Bool} {tl rn ki ag co pa me dki dag dco dpa dme nt tnt os og cs mo le se ab : Int32 → Int32} {tn rp wa be pr dso drs dwa dbe dpr nm nb nc nd ns np tnm tns tnp ph kh oh pk pc lf cu cd : Int32} {pf : Nat → Option Nat} {pst kst : Nat → gS} {sz bo cr de sd : Nat} (hs : sz ≤ 9)  : M w gT0 al mX6_present 0 0 (hC tl tn rn rp ki ag co pa me (nI sd) (nI sz) wa be pr dki dag dco dpa dme dso drs dwa dbe dpr nt nm nb nc nd ns np tnt tnm (nI bo) (nI cr) (nI de) tns tnp pf ph pst kh kst os og oh cs mo le se pk pc lf ab cu cd) [.ref 32] (gEq (hC tl tn rn rp ki ag co pa me (nI sd) (nI sz) wa be pr dki dag dco dpa dme dso drs dwa dbe dpr nt nm nb nc nd ns np tnt tnm (nI bo) (nI cr) (nI de) tns tnp pf ph pst kh kst os og oh cs mo le se pk pc lf ab cu cd) (some (.int (nI (presN co tnm sz cr de))))) := by
  have q := MX6_present_32 (w := w) (al := al) (tl := tl) (tn := tn) (rn := rn) (rp := rp) (ki := ki) (ag := ag) (co := co) (pa := pa) (me := me) (wa := wa) (be := be) (pr := pr) (dki := dki) (dag := dag) (dco := dco) (dpa := dpa) (dme := dme) (dso := dso) (drs := drs) (dwa := dwa) (dbe := dbe) (dpr := dpr) (nt := nt) (nm := nm) (nb := nb) (nc := nc) (nd := nd) (ns := ns) (np := np) (tnt := tnt) (tnm := tnm) (tns := tns) (tnp := tnp) (pf := pf) (ph := ph) (pst := pst) (kh := kh) (kst := kst) (os := os) (og := og) (oh := oh) (cs := cs) (mo := mo) (le := le) (se := se) (pk := pk) (pc := pc) (lf := lf) (ab := ab) (cu := cu) (cd := cd) (sz := sz) (bo := bo) (cr := cr) (de := de) (sd := sd) hs
  rw [(show rX6_present_29 co tnm sz cr de = nI (presN co tnm sz cr de) from rfl)] at q
  exact q
def rX6_placeOf_29 (co : Int32 → Int32) (nm : Int32) (p : Nat) (bo : Nat) (cr : Nat) (de : Nat) : Int32 := (if (de.testBit p) = true then 4 else (if (cr.testBit p) = true then 3 else (if (bo.testBit p) = true then 2 else (if nm < (co (nI p)) then 0 else 1))))
set_option maxRecDepth 100000 in
set_option maxHeartbeats 4000000 in
theorem MX6_placeOf_29 {w : gW} {al : Bool} {tl rn ki ag co pa me dki dag dco dpa dme nt tnt os og cs mo le se ab : Int32 → Int32} {tn rp wa be pr dso drs dwa dbe dpr nm ns np tnm tnb tnc tnd tns tnp ph kh oh pk pc lf cu cd : Int32} {pf : Nat → Option Nat} {pst kst : Nat → gS} {sz bo cr de sd : Nat} (p : Nat) (hs : sz ≤ 9) (hbo : bo < 512) (hcr : cr < 512) (hde : de < 512) (hp : p < 9)  : M w gT0 al mX6_placeOf 0 0 (hC tl tn rn rp ki ag co pa me (nI sd) (nI sz) wa be pr dki dag dco dpa dme dso drs dwa dbe dpr nt nm (nI bo) (nI cr) (nI de) ns np tnt tnm tnb tnc tnd tns tnp pf ph pst kh kst os og oh cs mo le se pk pc lf ab cu cd) [.ref 29, .int (nI p)] (gEq (hC tl tn rn rp ki ag co pa me (nI sd) (nI sz) wa be pr dki dag dco dpa dme dso drs dwa dbe dpr nt nm (nI bo) (nI cr) (nI de) ns np tnt tnm tnb tnc tnd tns tnp pf ph pst kh kst os og oh cs mo le se pk pc lf ab cu cd) (some (.int (rX6_placeOf_29 co nm p bo cr de)))) := by
  refine M.of (L0 := [.ref 29, .int (nI p)]) (by decide +kernel) (Nat.le_of_ble_eq_true rfl) rfl ?_
  refine g_aload_n dX6_placeOf_0 rfl 1 rfl rfl ?_
  refine g_get (v := .int (nI de)) dX6_placeOf_1 4 rfl lX6_37 rfl rfl ?_
  refine g_iload_n dX6_placeOf_4 rfl 5 rfl rfl ?_
  refine g_cSNv (as := [.int (nI de), .int (nI p)]) (st := []) dX6_placeOf_5 8 rfl kX6_69 ⟨Nat.le_of_ble_eq_true rfl, Nat.le_of_ble_eq_true rfl⟩ (MX9_has de p (by omega) (by omega)) rfl (Nat.le_of_ble_eq_true rfl) (Nat.le_refl _) (Nat.le_refl _) ?_
  refine g_if_eq dX6_placeOf_8 13 rfl 11 rfl (fun c1 => ?_) (fun c1 => ?_)
  · replace c1 := gB_f c1
    refine g_aload_n dX6_placeOf_13 rfl 14 rfl rfl ?_
    refine g_get (v := .int (nI cr)) dX6_placeOf_14 17 rfl lX6_34 rfl rfl ?_
    refine g_iload_n dX6_placeOf_17 rfl 18 rfl rfl ?_
    refine g_cSNv (as := [.int (nI cr), .int (nI p)]) (st := []) dX6_placeOf_18 21 rfl kX6_69 ⟨Nat.le_of_ble_eq_true rfl, Nat.le_of_ble_eq_true rfl⟩ (MX9_has cr p (by omega) (by omega)) rfl (Nat.le_of_ble_eq_true rfl) (Nat.le_refl _) (Nat.le_refl _) ?_
    refine g_if_eq dX6_placeOf_21 26 rfl 24 rfl (fun c2 => ?_) (fun c2 => ?_)
    · replace c2 := gB_f c2
      refine g_aload_n dX6_placeOf_26 rfl 27 rfl rfl ?_
      refine g_get (v := .int (nI bo)) dX6_placeOf_27 30 rfl lX6_31 rfl rfl ?_
      refine g_iload_n dX6_placeOf_30 rfl 31 rfl rfl ?_
      refine g_cSNv (as := [.int (nI bo), .int (nI p)]) (st := []) dX6_placeOf_31 34 rfl kX6_69 ⟨Nat.le_of_ble_eq_true rfl, Nat.le_of_ble_eq_true rfl⟩ (MX9_has bo p (by omega) (by omega)) rfl (Nat.le_of_ble_eq_true rfl) (Nat.le_refl _) (Nat.le_refl _) ?_
      refine g_if_eq dX6_placeOf_34 39 rfl 37 rfl (fun c3 => ?_) (fun c3 => ?_)
      · replace c3 := gB_f c3
        refine g_aload_n dX6_placeOf_39 rfl 40 rfl rfl ?_
        refine g_get (v := .ref 7) dX6_placeOf_40 43 rfl lX6_20 rfl rfl ?_
        refine g_get (v := .ref 12) dX6_placeOf_43 46 rfl lX6_63 rfl rfl ?_
        refine g_iload_n dX6_placeOf_46 rfl 47 rfl rfl ?_
        refine g_cVv (as := [.int (nI p)]) (st := []) dX6_placeOf_47 50 rfl kX6_46 ⟨Nat.le_of_ble_eq_true rfl, Nat.le_of_ble_eq_true rfl⟩ (MX3_atN (k := 12) (j := 13) (N := 9) (f := co) rfl rfl (by decide) p (by omega)) rfl rfl rfl rfl (Nat.le_of_ble_eq_true rfl) (Nat.le_refl _) (Nat.le_refl _) ?_
        refine g_aload_n dX6_placeOf_50 rfl 51 rfl rfl ?_
        refine g_get (v := .int nm) dX6_placeOf_51 54 rfl lX6_27 rfl rfl ?_
        refine g_icmp_gt dX6_placeOf_54 61 rfl 57 rfl (fun c4 => ?_) (fun c4 => ?_)
        · refine g_iconst 0 dX6_placeOf_61 62 rfl (by decide) ?_
          refine g_ireturn dX6_placeOf_62 rfl rfl (Nat.le_refl _) (Nat.le_refl _) ?_
          have e : (rX6_placeOf_29 co nm p bo cr de) = 0 := by rw [rX6_placeOf_29, if_neg c1, if_neg c2, if_neg c3, if_pos c4]
          rw [e]
          exact ⟨rfl, rfl⟩
        · refine g_iconst 1 dX6_placeOf_57 58 rfl (by decide) ?_
          refine g_goto dX6_placeOf_58 62 rfl ?_
          refine g_ireturn dX6_placeOf_62 rfl rfl (Nat.le_refl _) (Nat.le_refl _) ?_
          have e : (rX6_placeOf_29 co nm p bo cr de) = 1 := by rw [rX6_placeOf_29, if_neg c1, if_neg c2, if_neg c3, if_neg c4]
          rw [e]
          exact ⟨rfl, rfl⟩
      · replace c3 := gB_t c3
        refine g_iconst 2 dX6_placeOf_37 38 rfl (by decide) ?_
        refine g_ireturn dX6_placeOf_38 rfl rfl (Nat.le_refl _) (Nat.le_refl _) ?_
        have e : (rX6_placeOf_29 co nm p bo cr de) = 2 := by rw [rX6_placeOf_29, if_neg c1, if_neg c2, if_pos c3]
        rw [e]
        exact ⟨rfl, rfl⟩
    · replace c2 := gB_t c2
      refine g_iconst 3 dX6_placeOf_24 25 rfl (by decide) ?_
      refine g_ireturn dX6_placeOf_25 rfl rfl (Nat.le_refl _) (Nat.le_refl _) ?_
      have e : (rX6_placeOf_29 co nm p bo cr de) = 3 := by rw [rX6_placeOf_29, if_neg c1, if_pos c2]
      rw [e]
      exact ⟨rfl, rfl⟩
  · replace c1 := gB_t c1
    refine g_iconst 4 dX6_placeOf_11 12 rfl (by decide) ?_
    refine g_ireturn dX6_placeOf_12 rfl rfl (Nat.le_refl _) (Nat.le_refl _) ?_
    have e : (rX6_placeOf_29 co nm p bo cr de) = 4 := by rw [rX6_placeOf_29, if_pos c1]
    rw [e]
    exact ⟨rfl, rfl⟩
set_option maxRecDepth 100000 in
set_option maxHeartbeats 4000000 in
theorem MX6_placeOf_32 {w : gW} {al : Bool} {tl rn ki ag co pa me dki dag dco dpa dme nt tnt os og cs mo le se ab : Int32 → Int32} {tn rp wa be pr dso drs dwa dbe dpr nm nb nc nd ns np tnm tns tnp ph kh oh pk pc lf cu cd : Int32} {pf : Nat → Option Nat} {pst kst : Nat → gS} {sz bo cr de sd : Nat} (p : Nat) (hs : sz ≤ 9) (hbo : bo < 512) (hcr : cr < 512) (hde : de < 512) (hp : p < 9)  : M w gT0 al mX6_placeOf 0 0 (hC tl tn rn rp ki ag co pa me (nI sd) (nI sz) wa be pr dki dag dco dpa dme dso drs dwa dbe dpr nt nm nb nc nd ns np tnt tnm (nI bo) (nI cr) (nI de) tns tnp pf ph pst kh kst os og oh cs mo le se pk pc lf ab cu cd) [.ref 32, .int (nI p)] (gEq (hC tl tn rn rp ki ag co pa me (nI sd) (nI sz) wa be pr dki dag dco dpa dme dso drs dwa dbe dpr nt nm nb nc nd ns np tnt tnm (nI bo) (nI cr) (nI de) tns tnp pf ph pst kh kst os og oh cs mo le se pk pc lf ab cu cd) (some (.int (rX6_placeOf_29 co tnm p bo cr de)))) := by
  refine M.of (L0 := [.ref 32, .int (nI p)]) (by decide +kernel) (Nat.le_of_ble_eq_true rfl) rfl ?_
  refine g_aload_n dX6_placeOf_0 rfl 1 rfl rfl ?_
  refine g_get (v := .int (nI de)) dX6_placeOf_1 4 rfl lX6_37 rfl rfl ?_
  refine g_iload_n dX6_placeOf_4 rfl 5 rfl rfl ?_
  refine g_cSNv (as := [.int (nI de), .int (nI p)]) (st := []) dX6_placeOf_5 8 rfl kX6_69 ⟨Nat.le_of_ble_eq_true rfl, Nat.le_of_ble_eq_true rfl⟩ (MX9_has de p (by omega) (by omega)) rfl (Nat.le_of_ble_eq_true rfl) (Nat.le_refl _) (Nat.le_refl _) ?_
  refine g_if_eq dX6_placeOf_8 13 rfl 11 rfl (fun c1 => ?_) (fun c1 => ?_)
  · replace c1 := gB_f c1
    refine g_aload_n dX6_placeOf_13 rfl 14 rfl rfl ?_
    refine g_get (v := .int (nI cr)) dX6_placeOf_14 17 rfl lX6_34 rfl rfl ?_
    refine g_iload_n dX6_placeOf_17 rfl 18 rfl rfl ?_
    refine g_cSNv (as := [.int (nI cr), .int (nI p)]) (st := []) dX6_placeOf_18 21 rfl kX6_69 ⟨Nat.le_of_ble_eq_true rfl, Nat.le_of_ble_eq_true rfl⟩ (MX9_has cr p (by omega) (by omega)) rfl (Nat.le_of_ble_eq_true rfl) (Nat.le_refl _) (Nat.le_refl _) ?_
    refine g_if_eq dX6_placeOf_21 26 rfl 24 rfl (fun c2 => ?_) (fun c2 => ?_)
    · replace c2 := gB_f c2
      refine g_aload_n dX6_placeOf_26 rfl 27 rfl rfl ?_
      refine g_get (v := .int (nI bo)) dX6_placeOf_27 30 rfl lX6_31 rfl rfl ?_
      refine g_iload_n dX6_placeOf_30 rfl 31 rfl rfl ?_
      refine g_cSNv (as := [.int (nI bo), .int (nI p)]) (st := []) dX6_placeOf_31 34 rfl kX6_69 ⟨Nat.le_of_ble_eq_true rfl, Nat.le_of_ble_eq_true rfl⟩ (MX9_has bo p (by omega) (by omega)) rfl (Nat.le_of_ble_eq_true rfl) (Nat.le_refl _) (Nat.le_refl _) ?_
      refine g_if_eq dX6_placeOf_34 39 rfl 37 rfl (fun c3 => ?_) (fun c3 => ?_)
      · replace c3 := gB_f c3
        refine g_aload_n dX6_placeOf_39 rfl 40 rfl rfl ?_
        refine g_get (v := .ref 7) dX6_placeOf_40 43 rfl lX6_20 rfl rfl ?_
        refine g_get (v := .ref 12) dX6_placeOf_43 46 rfl lX6_63 rfl rfl ?_
        refine g_iload_n dX6_placeOf_46 rfl 47 rfl rfl ?_
        refine g_cVv (as := [.int (nI p)]) (st := []) dX6_placeOf_47 50 rfl kX6_46 ⟨Nat.le_of_ble_eq_true rfl, Nat.le_of_ble_eq_true rfl⟩ (MX3_atN (k := 12) (j := 13) (N := 9) (f := co) rfl rfl (by decide) p (by omega)) rfl rfl rfl rfl (Nat.le_of_ble_eq_true rfl) (Nat.le_refl _) (Nat.le_refl _) ?_
        refine g_aload_n dX6_placeOf_50 rfl 51 rfl rfl ?_
        refine g_get (v := .int tnm) dX6_placeOf_51 54 rfl lX6_27 rfl rfl ?_
        refine g_icmp_gt dX6_placeOf_54 61 rfl 57 rfl (fun c4 => ?_) (fun c4 => ?_)
        · refine g_iconst 0 dX6_placeOf_61 62 rfl (by decide) ?_
          refine g_ireturn dX6_placeOf_62 rfl rfl (Nat.le_refl _) (Nat.le_refl _) ?_
          have e : (rX6_placeOf_29 co tnm p bo cr de) = 0 := by rw [rX6_placeOf_29, if_neg c1, if_neg c2, if_neg c3, if_pos c4]
          rw [e]
          exact ⟨rfl, rfl⟩
        · refine g_iconst 1 dX6_placeOf_57 58 rfl (by decide) ?_
          refine g_goto dX6_placeOf_58 62 rfl ?_
          refine g_ireturn dX6_placeOf_62 rfl rfl (Nat.le_refl _) (Nat.le_refl _) ?_
          have e : (rX6_placeOf_29 co tnm p bo cr de) = 1 := by rw [rX6_placeOf_29, if_neg c1, if_neg c2, if_neg c3, if_neg c4]
          rw [e]
          exact ⟨rfl, rfl⟩
      · replace c3 := gB_t c3
        refine g_iconst 2 dX6_placeOf_37 38 rfl (by decide) ?_
        refine g_ireturn dX6_placeOf_38 rfl rfl (Nat.le_refl _) (Nat.le_refl _) ?_
        have e : (rX6_placeOf_29 co tnm p bo cr de) = 2 := by rw [rX6_placeOf_29, if_neg c1, if_neg c2, if_pos c3]
        rw [e]
        exact ⟨rfl, rfl⟩
    · replace c2 := gB_t c2
      refine g_iconst 3 dX6_placeOf_24 25 rfl (by decide) ?_
      refine g_ireturn dX6_placeOf_25 rfl rfl (Nat.le_refl _) (Nat.le_refl _) ?_
      have e : (rX6_placeOf_29 co tnm p bo cr de) = 3 := by rw [rX6_placeOf_29, if_neg c1, if_pos c2]
      rw [e]
      exact ⟨rfl, rfl⟩
  · replace c1 := gB_t c1
    refine g_iconst 4 dX6_placeOf_11 12 rfl (by decide) ?_
    refine g_ireturn dX6_placeOf_12 rfl rfl (Nat.le_refl _) (Nat.le_refl _) ?_
    have e : (rX6_placeOf_29 co tnm p bo cr de) = 4 := by rw [rX6_placeOf_29, if_pos c1]
    rw [e]
    exact ⟨rfl, rfl⟩
def rX6_yearsOf_29 (ki : Int32 → Int32) (ag : Int32 → Int32) (nt : Int32 → Int32) (p : Nat) (ar : Bool) : Int32 := (if (ki (nI p)) = 1 then 1 else (if (ki (nI p)) = 2 then (maxI 0 ((ag (nI p)) - (10 * (nt (nI p))))) else (if (ki (nI p)) = 3 then (if ar = true then (ag (nI p)) else 0) else (ag (nI p)))))
set_option maxRecDepth 100000 in
set_option maxHeartbeats 4000000 in
theorem MX6_yearsOf_29 {w : gW} {al : Bool} {tl rn ki ag co pa me dki dag dco dpa dme nt tnt os og cs mo le se ab : Int32 → Int32} {tn rp wa be pr dso drs dwa dbe dpr nm ns np tnm tnb tnc tnd tns tnp ph kh oh pk pc lf cu cd : Int32} {pf : Nat → Option Nat} {pst kst : Nat → gS} {sz bo cr de sd : Nat} (p : Nat) (ar : Bool) (hs : sz ≤ 9) (hp : p < 9)  : M w gT0 al mX6_yearsOf 0 0 (hC tl tn rn rp ki ag co pa me (nI sd) (nI sz) wa be pr dki dag dco dpa dme dso drs dwa dbe dpr nt nm (nI bo) (nI cr) (nI de) ns np tnt tnm tnb tnc tnd tns tnp pf ph pst kh kst os og oh cs mo le se pk pc lf ab cu cd) [.ref 29, .int (nI p), .int (gB ar)] (gEq (hC tl tn rn rp ki ag co pa me (nI sd) (nI sz) wa be pr dki dag dco dpa dme dso drs dwa dbe dpr nt nm (nI bo) (nI cr) (nI de) ns np tnt tnm tnb tnc tnd tns tnp pf ph pst kh kst os og oh cs mo le se pk pc lf ab cu cd) (some (.int (rX6_yearsOf_29 ki ag nt p ar)))) := by
  refine M.of (L0 := [.ref 29, .int (nI p), .int (gB ar), gF]) (by decide +kernel) (Nat.le_of_ble_eq_true rfl) rfl ?_
  refine g_aload_n dX6_yearsOf_0 rfl 1 rfl rfl ?_
  refine g_get (v := .ref 7) dX6_yearsOf_1 4 rfl lX6_20 rfl rfl ?_
  refine g_get (v := .ref 10) dX6_yearsOf_4 7 rfl lX6_85 rfl rfl ?_
  refine g_iload_n dX6_yearsOf_7 rfl 8 rfl rfl ?_
  refine g_cVv (as := [.int (nI p)]) (st := []) dX6_yearsOf_8 11 rfl kX6_46 ⟨Nat.le_of_ble_eq_true rfl, Nat.le_of_ble_eq_true rfl⟩ (MX3_atN (k := 10) (j := 11) (N := 9) (f := ag) rfl rfl (by decide) p (by omega)) rfl rfl rfl rfl (Nat.le_of_ble_eq_true rfl) (Nat.le_refl _) (Nat.le_refl _) ?_
  refine g_istore3 dX6_yearsOf_11 12 rfl (by decide) rfl ?_
  refine g_aload_n dX6_yearsOf_12 rfl 13 rfl rfl ?_
  refine g_get (v := .ref 7) dX6_yearsOf_13 16 rfl lX6_20 rfl rfl ?_
  refine g_get (v := .ref 8) dX6_yearsOf_16 19 rfl lX6_88 rfl rfl ?_
  refine g_iload_n dX6_yearsOf_19 rfl 20 rfl rfl ?_
  refine g_cVv (as := [.int (nI p)]) (st := []) dX6_yearsOf_20 23 rfl kX6_46 ⟨Nat.le_of_ble_eq_true rfl, Nat.le_of_ble_eq_true rfl⟩ (MX3_atN (k := 8) (j := 9) (N := 9) (f := ki) rfl rfl (by decide) p (by omega)) rfl rfl rfl rfl (Nat.le_of_ble_eq_true rfl) (Nat.le_refl _) (Nat.le_refl _) ?_
  refine g_tsw dX6_yearsOf_23 [(1, 48), (2, 50), (3, 68)] 78 (by decide) (by decide) rfl (by decide) ?_
  refine And.intro (fun c1 => ?_) (fun c1 => ?_)
  · refine g_iconst 1 dX6_yearsOf_48 49 rfl (by decide) ?_
    refine g_ireturn dX6_yearsOf_49 rfl rfl (Nat.le_refl _) (Nat.le_refl _) ?_
    have e : (rX6_yearsOf_29 ki ag nt p ar) = 1 := by rw [rX6_yearsOf_29, if_pos c1]
    rw [e]
    exact ⟨rfl, rfl⟩
  · refine And.intro (fun c2 => ?_) (fun c2 => ?_)
    · refine g_iconst 0 dX6_yearsOf_50 51 rfl (by decide) ?_
      refine g_iload_n dX6_yearsOf_51 rfl 52 rfl rfl ?_
      refine g_bipush 10 dX6_yearsOf_52 54 rfl (by decide) ?_
      refine g_aload_n dX6_yearsOf_54 rfl 55 rfl rfl ?_
      refine g_get (v := .ref 30) dX6_yearsOf_55 58 rfl lX6_14 rfl rfl ?_
      refine g_iload_n dX6_yearsOf_58 rfl 59 rfl rfl ?_
      refine g_cVv (as := [.int (nI p)]) (st := [.int 10, .int (ag (nI p)), .int 0]) dX6_yearsOf_59 62 rfl kX6_46 ⟨Nat.le_of_ble_eq_true rfl, Nat.le_of_ble_eq_true rfl⟩ (MX3_atN (k := 30) (j := 31) (N := 9) (f := nt) rfl rfl (by decide) p (by omega)) rfl rfl rfl rfl (Nat.le_of_ble_eq_true rfl) (Nat.le_refl _) (Nat.le_refl _) ?_
      refine g_imul dX6_yearsOf_62 63 rfl ?_
      refine g_isub dX6_yearsOf_63 64 rfl ?_
      refine g_mmax dX6_yearsOf_64 67 rfl qX6_91 (by decide) (by decide) (Nat.le_of_ble_eq_true rfl) (Nat.le_refl _) (Nat.le_refl _) (maxI 0 ((ag (nI p)) - (10 * (nt (nI p))))) rfl ?_
      refine g_ireturn dX6_yearsOf_67 rfl rfl (Nat.le_refl _) (Nat.le_refl _) ?_
      have e : (rX6_yearsOf_29 ki ag nt p ar) = (maxI 0 ((ag (nI p)) - (10 * (nt (nI p))))) := by rw [rX6_yearsOf_29, if_neg c1, if_pos c2]
      rw [e]
      exact ⟨rfl, rfl⟩
    · refine And.intro (fun c3 => ?_) (fun c3 => ?_)
      · refine g_iload_n dX6_yearsOf_68 rfl 69 rfl rfl ?_
        refine g_if_eq dX6_yearsOf_69 76 rfl 72 rfl (fun c4 => ?_) (fun c4 => ?_)
        · replace c4 := gB_f c4
          refine g_iconst 0 dX6_yearsOf_76 77 rfl (by decide) ?_
          refine g_ireturn dX6_yearsOf_77 rfl rfl (Nat.le_refl _) (Nat.le_refl _) ?_
          have e : (rX6_yearsOf_29 ki ag nt p ar) = 0 := by rw [rX6_yearsOf_29, if_neg c1, if_neg c2, if_pos c3, if_neg c4]
          rw [e]
          exact ⟨rfl, rfl⟩
        · replace c4 := gB_t c4
          refine g_iload_n dX6_yearsOf_72 rfl 73 rfl rfl ?_
          refine g_goto dX6_yearsOf_73 77 rfl ?_
          refine g_ireturn dX6_yearsOf_77 rfl rfl (Nat.le_refl _) (Nat.le_refl _) ?_
          have e : (rX6_yearsOf_29 ki ag nt p ar) = (ag (nI p)) := by rw [rX6_yearsOf_29, if_neg c1, if_neg c2, if_pos c3, if_pos c4]
          rw [e]
          exact ⟨rfl, rfl⟩
      · refine g_iload_n dX6_yearsOf_78 rfl 79 rfl rfl ?_
        refine g_ireturn dX6_yearsOf_79 rfl rfl (Nat.le_refl _) (Nat.le_refl _) ?_
        have e : (rX6_yearsOf_29 ki ag nt p ar) = (ag (nI p)) := by rw [rX6_yearsOf_29, if_neg c1, if_neg c2, if_neg c3]
        rw [e]
        exact ⟨rfl, rfl⟩
set_option maxRecDepth 100000 in
set_option maxHeartbeats 4000000 in
theorem MX6_yearsOf_32 {w : gW} {al : Bool} {tl rn ki ag co pa me dki dag dco dpa dme nt tnt os og cs mo le se ab : Int32 → Int32} {tn rp wa be pr dso drs dwa dbe dpr nm nb nc nd ns np tnm tns tnp ph kh oh pk pc lf cu cd : Int32} {pf : Nat → Option Nat} {pst kst : Nat → gS} {sz bo cr de sd : Nat} (p : Nat) (ar : Bool) (hs : sz ≤ 9) (hp : p < 9)  : M w gT0 al mX6_yearsOf 0 0 (hC tl tn rn rp ki ag co pa me (nI sd) (nI sz) wa be pr dki dag dco dpa dme dso drs dwa dbe dpr nt nm nb nc nd ns np tnt tnm (nI bo) (nI cr) (nI de) tns tnp pf ph pst kh kst os og oh cs mo le se pk pc lf ab cu cd) [.ref 32, .int (nI p), .int (gB ar)] (gEq (hC tl tn rn rp ki ag co pa me (nI sd) (nI sz) wa be pr dki dag dco dpa dme dso drs dwa dbe dpr nt nm nb nc nd ns np tnt tnm (nI bo) (nI cr) (nI de) tns tnp pf ph pst kh kst os og oh cs mo le se pk pc lf ab cu cd) (some (.int (rX6_yearsOf_29 ki ag tnt p ar)))) := by
  refine M.of (L0 := [.ref 32, .int (nI p), .int (gB ar), gF]) (by decide +kernel) (Nat.le_of_ble_eq_true rfl) rfl ?_
  refine g_aload_n dX6_yearsOf_0 rfl 1 rfl rfl ?_
  refine g_get (v := .ref 7) dX6_yearsOf_1 4 rfl lX6_20 rfl rfl ?_
  refine g_get (v := .ref 10) dX6_yearsOf_4 7 rfl lX6_85 rfl rfl ?_
  refine g_iload_n dX6_yearsOf_7 rfl 8 rfl rfl ?_
  refine g_cVv (as := [.int (nI p)]) (st := []) dX6_yearsOf_8 11 rfl kX6_46 ⟨Nat.le_of_ble_eq_true rfl, Nat.le_of_ble_eq_true rfl⟩ (MX3_atN (k := 10) (j := 11) (N := 9) (f := ag) rfl rfl (by decide) p (by omega)) rfl rfl rfl rfl (Nat.le_of_ble_eq_true rfl) (Nat.le_refl _) (Nat.le_refl _) ?_
  refine g_istore3 dX6_yearsOf_11 12 rfl (by decide) rfl ?_
  refine g_aload_n dX6_yearsOf_12 rfl 13 rfl rfl ?_
  refine g_get (v := .ref 7) dX6_yearsOf_13 16 rfl lX6_20 rfl rfl ?_
  refine g_get (v := .ref 8) dX6_yearsOf_16 19 rfl lX6_88 rfl rfl ?_
  refine g_iload_n dX6_yearsOf_19 rfl 20 rfl rfl ?_
  refine g_cVv (as := [.int (nI p)]) (st := []) dX6_yearsOf_20 23 rfl kX6_46 ⟨Nat.le_of_ble_eq_true rfl, Nat.le_of_ble_eq_true rfl⟩ (MX3_atN (k := 8) (j := 9) (N := 9) (f := ki) rfl rfl (by decide) p (by omega)) rfl rfl rfl rfl (Nat.le_of_ble_eq_true rfl) (Nat.le_refl _) (Nat.le_refl _) ?_
  refine g_tsw dX6_yearsOf_23 [(1, 48), (2, 50), (3, 68)] 78 (by decide) (by decide) rfl (by decide) ?_
  refine And.intro (fun c1 => ?_) (fun c1 => ?_)
  · refine g_iconst 1 dX6_yearsOf_48 49 rfl (by decide) ?_
    refine g_ireturn dX6_yearsOf_49 rfl rfl (Nat.le_refl _) (Nat.le_refl _) ?_
    have e : (rX6_yearsOf_29 ki ag tnt p ar) = 1 := by rw [rX6_yearsOf_29, if_pos c1]
    rw [e]
    exact ⟨rfl, rfl⟩
  · refine And.intro (fun c2 => ?_) (fun c2 => ?_)
    · refine g_iconst 0 dX6_yearsOf_50 51 rfl (by decide) ?_
      refine g_iload_n dX6_yearsOf_51 rfl 52 rfl rfl ?_
      refine g_bipush 10 dX6_yearsOf_52 54 rfl (by decide) ?_
      refine g_aload_n dX6_yearsOf_54 rfl 55 rfl rfl ?_
      refine g_get (v := .ref 33) dX6_yearsOf_55 58 rfl lX6_14 rfl rfl ?_
      refine g_iload_n dX6_yearsOf_58 rfl 59 rfl rfl ?_
      refine g_cVv (as := [.int (nI p)]) (st := [.int 10, .int (ag (nI p)), .int 0]) dX6_yearsOf_59 62 rfl kX6_46 ⟨Nat.le_of_ble_eq_true rfl, Nat.le_of_ble_eq_true rfl⟩ (MX3_atN (k := 33) (j := 34) (N := 9) (f := tnt) rfl rfl (by decide) p (by omega)) rfl rfl rfl rfl (Nat.le_of_ble_eq_true rfl) (Nat.le_refl _) (Nat.le_refl _) ?_
      refine g_imul dX6_yearsOf_62 63 rfl ?_
      refine g_isub dX6_yearsOf_63 64 rfl ?_
      refine g_mmax dX6_yearsOf_64 67 rfl qX6_91 (by decide) (by decide) (Nat.le_of_ble_eq_true rfl) (Nat.le_refl _) (Nat.le_refl _) (maxI 0 ((ag (nI p)) - (10 * (tnt (nI p))))) rfl ?_
      refine g_ireturn dX6_yearsOf_67 rfl rfl (Nat.le_refl _) (Nat.le_refl _) ?_
      have e : (rX6_yearsOf_29 ki ag tnt p ar) = (maxI 0 ((ag (nI p)) - (10 * (tnt (nI p))))) := by rw [rX6_yearsOf_29, if_neg c1, if_pos c2]
      rw [e]
      exact ⟨rfl, rfl⟩
    · refine And.intro (fun c3 => ?_) (fun c3 => ?_)
      · refine g_iload_n dX6_yearsOf_68 rfl 69 rfl rfl ?_
        refine g_if_eq dX6_yearsOf_69 76 rfl 72 rfl (fun c4 => ?_) (fun c4 => ?_)
        · replace c4 := gB_f c4
          refine g_iconst 0 dX6_yearsOf_76 77 rfl (by decide) ?_
          refine g_ireturn dX6_yearsOf_77 rfl rfl (Nat.le_refl _) (Nat.le_refl _) ?_
          have e : (rX6_yearsOf_29 ki ag tnt p ar) = 0 := by rw [rX6_yearsOf_29, if_neg c1, if_neg c2, if_pos c3, if_neg c4]
          rw [e]
          exact ⟨rfl, rfl⟩
        · replace c4 := gB_t c4
          refine g_iload_n dX6_yearsOf_72 rfl 73 rfl rfl ?_
          refine g_goto dX6_yearsOf_73 77 rfl ?_
          refine g_ireturn dX6_yearsOf_77 rfl rfl (Nat.le_refl _) (Nat.le_refl _) ?_
          have e : (rX6_yearsOf_29 ki ag tnt p ar) = (ag (nI p)) := by rw [rX6_yearsOf_29, if_neg c1, if_neg c2, if_pos c3, if_pos c4]
          rw [e]
          exact ⟨rfl, rfl⟩
      · refine g_iload_n dX6_yearsOf_78 rfl 79 rfl rfl ?_
        refine g_ireturn dX6_yearsOf_79 rfl rfl (Nat.le_refl _) (Nat.le_refl _) ?_
        have e : (rX6_yearsOf_29 ki ag tnt p ar) = (ag (nI p)) := by rw [rX6_yearsOf_29, if_neg c1, if_neg c2, if_neg c3]
        rw [e]
        exact ⟨rfl, rfl⟩
def fX6_totalOf_27_29 (ki : Int32 → Int32) (ag : Int32 → Int32) (nt : Int32 → Int32) (a : Nat) (ar : Bool) : Nat → (Int32) → (Int32)
  | i, u0 => (if (a.testBit i) = true then (u0 + (rX6_yearsOf_29 ki ag nt i ar)) else u0)
set_option maxRecDepth 100000 in
set_option maxHeartbeats 4000000 in
theorem LX6_totalOf_27_29 {w : gW} {al : Bool} {tl rn ki ag co pa me dki dag dco dpa dme nt tnt os og cs mo le se ab : Int32 → Int32} {tn rp wa be pr dso drs dwa dbe dpr nm ns np tnm tnb tnc tnd tns tnp ph kh oh pk pc lf cu cd : Int32} {pf : Nat → Option Nat} {pst kst : Nat → gS} {n : Nat} {P : gP} {sz bo cr de sd : Nat} {a : Nat} {ar : Bool} (hs : sz ≤ 9) (ha : a < 512)  : ∀ (d i : Nat) (u0 : Int32), i + d = sz → G w gT0 al n mX6_totalOf 0 0 P 0 0 (hC tl tn rn rp ki ag co pa me (nI sd) (nI sz) wa be pr dki dag dco dpa dme dso drs dwa dbe dpr nt nm (nI bo) (nI cr) (nI de) ns np tnt tnm tnb tnc tnd tns tnp pf ph pst kh kst os og oh cs mo le se pk pc lf ab cu cd) 64 [.ref 29, .int (nI a), .int (gB ar), .int (gLp (fX6_totalOf_27_29 ki ag nt a ar) d i u0), .int (nI sz)] [] → G w gT0 al n mX6_totalOf 0 0 P 0 0 (hC tl tn rn rp ki ag co pa me (nI sd) (nI sz) wa be pr dki dag dco dpa dme dso drs dwa dbe dpr nt nm (nI bo) (nI cr) (nI de) ns np tnt tnm tnb tnc tnd tns tnp pf ph pst kh kst os og oh cs mo le se pk pc lf ab cu cd) 27 [.ref 29, .int (nI a), .int (gB ar), .int u0, .int (nI i)] [] := by
  intro d
  induction d with
  | zero =>
    intro i u0 hi k
    have hN : i = sz := by omega
    rw [hN]
    rw [hN] at k
    refine g_iload dX6_totalOf_27 29 rfl rfl ?_
    refine g_aload_n dX6_totalOf_29 rfl 30 rfl rfl ?_
    refine g_get (v := .ref 7) dX6_totalOf_30 33 rfl lX6_20 rfl rfl ?_
    refine g_get (v := .int (nI sz)) dX6_totalOf_33 36 rfl lX6_60 rfl rfl ?_
    refine g_icmp_ge dX6_totalOf_36 64 rfl 39 rfl (fun _ => ?_) (fun c => absurd (nI_le (Nat.le_refl _) (by omega)) c)
    exact k
  | succ d ih =>
    intro i u0 hi k
    refine g_iload dX6_totalOf_27 29 rfl rfl ?_
    refine g_aload_n dX6_totalOf_29 rfl 30 rfl rfl ?_
    refine g_get (v := .ref 7) dX6_totalOf_30 33 rfl lX6_20 rfl rfl ?_
    refine g_get (v := .int (nI sz)) dX6_totalOf_33 36 rfl lX6_60 rfl rfl ?_
    refine g_icmp_ge dX6_totalOf_36 64 rfl 39 rfl (fun c => absurd c (nI_ge (by omega) (by omega))) (fun _ => ?_)
    refine g_iload_n dX6_totalOf_39 rfl 40 rfl rfl ?_
    refine g_iload dX6_totalOf_40 42 rfl rfl ?_
    refine g_cSNv (as := [.int (nI a), .int (nI i)]) (st := []) dX6_totalOf_42 45 rfl kX6_69 ⟨Nat.le_of_ble_eq_true rfl, Nat.le_of_ble_eq_true rfl⟩ (MX9_has a i (by omega) (by omega)) rfl (Nat.le_of_ble_eq_true rfl) (Nat.le_refl _) (Nat.le_refl _) ?_
    refine g_if_eq dX6_totalOf_45 58 rfl 48 rfl (fun c1 => ?_) (fun c1 => ?_)
    · replace c1 := gB_f c1
      refine g_iinc4 dX6_totalOf_58 61 rfl 1 (by decide) (nI (i + 1)) (nI_add _ 1) (by decide) rfl ?_
      refine g_goto dX6_totalOf_61 27 rfl ?_
      have e : (fX6_totalOf_27_29 ki ag nt a ar) i u0 = u0 := by rw [fX6_totalOf_27_29, if_neg c1]
      refine ih (i + 1) u0 (by omega) ?_
      rw [← e]
      exact k
    · replace c1 := gB_t c1
      refine g_iload_n dX6_totalOf_48 rfl 49 rfl rfl ?_
      refine g_aload_n dX6_totalOf_49 rfl 50 rfl rfl ?_
      refine g_iload dX6_totalOf_50 52 rfl rfl ?_
      refine g_iload_n dX6_totalOf_52 rfl 53 rfl rfl ?_
      refine g_cVv (as := [.int (nI i), .int (gB ar)]) (st := [.int u0]) dX6_totalOf_53 56 rfl kX6_81 ⟨Nat.le_of_ble_eq_true rfl, Nat.le_of_ble_eq_true rfl⟩ (MX6_yearsOf_29 (sz := sz) (bo := bo) (cr := cr) (de := de) (sd := sd) i ar (by omega) (by omega)) rfl rfl rfl rfl (Nat.le_of_ble_eq_true rfl) (Nat.le_refl _) (Nat.le_refl _) ?_
      refine g_iadd dX6_totalOf_56 57 rfl ?_
      refine g_istore3 dX6_totalOf_57 58 rfl (by decide) rfl ?_
      refine g_iinc4 dX6_totalOf_58 61 rfl 1 (by decide) (nI (i + 1)) (nI_add _ 1) (by decide) rfl ?_
      refine g_goto dX6_totalOf_61 27 rfl ?_
      have e : (fX6_totalOf_27_29 ki ag nt a ar) i u0 = (u0 + (rX6_yearsOf_29 ki ag nt i ar)) := by rw [fX6_totalOf_27_29, if_pos c1]
      refine ih (i + 1) (u0 + (rX6_yearsOf_29 ki ag nt i ar)) (by omega) ?_
      rw [← e]
      exact k
def rX6_totalOf_29 (ki : Int32 → Int32) (ag : Int32 → Int32) (nt : Int32 → Int32) (a : Nat) (sz : Nat) (sd : Nat) : Int32 := (if (nI (tOnes (a &&& sd))) < 2 then (gLp (fX6_totalOf_27_29 ki ag nt a false) sz 0 0) else (gLp (fX6_totalOf_27_29 ki ag nt a true) sz 0 0))
set_option maxRecDepth 100000 in
set_option maxHeartbeats 4000000 in
theorem MX6_totalOf_29 {w : gW} {al : Bool} {tl rn ki ag co pa me dki dag dco dpa dme nt tnt os og cs mo le se ab : Int32 → Int32} {tn rp wa be pr dso drs dwa dbe dpr nm ns np tnm tnb tnc tnd tns tnp ph kh oh pk pc lf cu cd : Int32} {pf : Nat → Option Nat} {pst kst : Nat → gS} {sz bo cr de sd : Nat} (a : Nat) (hs : sz ≤ 9) (hsd : sd < 512) (ha : a < 512)  : M w gT0 al mX6_totalOf 0 0 (hC tl tn rn rp ki ag co pa me (nI sd) (nI sz) wa be pr dki dag dco dpa dme dso drs dwa dbe dpr nt nm (nI bo) (nI cr) (nI de) ns np tnt tnm tnb tnc tnd tns tnp pf ph pst kh kst os og oh cs mo le se pk pc lf ab cu cd) [.ref 29, .int (nI a)] (gEq (hC tl tn rn rp ki ag co pa me (nI sd) (nI sz) wa be pr dki dag dco dpa dme dso drs dwa dbe dpr nt nm (nI bo) (nI cr) (nI de) ns np tnt tnm tnb tnc tnd tns tnp pf ph pst kh kst os og oh cs mo le se pk pc lf ab cu cd) (some (.int (rX6_totalOf_29 ki ag nt a sz sd)))) := by
  refine M.of (L0 := [.ref 29, .int (nI a), gF, gF, gF]) (by decide +kernel) (Nat.le_of_ble_eq_true rfl) rfl ?_
  refine g_iload_n dX6_totalOf_0 rfl 1 rfl rfl ?_
  refine g_aload_n dX6_totalOf_1 rfl 2 rfl rfl ?_
  refine g_get (v := .ref 7) dX6_totalOf_2 5 rfl lX6_20 rfl rfl ?_
  refine g_get (v := .int (nI sd)) dX6_totalOf_5 8 rfl lX6_73 rfl rfl ?_
  refine g_iand' dX6_totalOf_8 9 rfl (nI (a &&& sd)) (z_and _ _) ?_
  refine g_cSv (as := [.int (nI (a &&& sd))]) (st := []) dX6_totalOf_9 12 rfl kX6_76 ⟨Nat.le_of_ble_eq_true rfl, Nat.le_of_ble_eq_true rfl⟩ (MJ6_bitCount (a &&& sd) (and_lt (by omega))) rfl (Nat.le_of_ble_eq_true rfl) (Nat.le_refl _) (Nat.le_refl _) ?_
  refine g_iconst 2 dX6_totalOf_12 13 rfl (by decide) ?_
  refine g_icmp_lt dX6_totalOf_13 20 rfl 16 rfl (fun c1 => ?_) (fun c1 => ?_)
  · refine g_iconst 0 dX6_totalOf_20 21 rfl (by decide) ?_
    refine g_istore2 dX6_totalOf_21 22 rfl (by decide) rfl ?_
    refine g_iconst 0 dX6_totalOf_22 23 rfl (by decide) ?_
    refine g_istore3 dX6_totalOf_23 24 rfl (by decide) rfl ?_
    refine g_iconst 0 dX6_totalOf_24 25 rfl (by decide) ?_
    refine g_istore4 dX6_totalOf_25 27 rfl (by decide) rfl ?_
    refine LX6_totalOf_27_29 (a := a) (ar := false) (by omega) (by omega) sz 0 0 (by omega) ?_
    refine g_iload_n dX6_totalOf_64 rfl 65 rfl rfl ?_
    refine g_ireturn dX6_totalOf_65 rfl rfl (Nat.le_refl _) (Nat.le_refl _) ?_
    have e : (rX6_totalOf_29 ki ag nt a sz sd) = (gLp (fX6_totalOf_27_29 ki ag nt a false) sz 0 0) := by rw [rX6_totalOf_29, if_pos c1]
    rw [e]
    exact ⟨rfl, rfl⟩
  · refine g_iconst 1 dX6_totalOf_16 17 rfl (by decide) ?_
    refine g_goto dX6_totalOf_17 21 rfl ?_
    refine g_istore2 dX6_totalOf_21 22 rfl (by decide) rfl ?_
    refine g_iconst 0 dX6_totalOf_22 23 rfl (by decide) ?_
    refine g_istore3 dX6_totalOf_23 24 rfl (by decide) rfl ?_
    refine g_iconst 0 dX6_totalOf_24 25 rfl (by decide) ?_
    refine g_istore4 dX6_totalOf_25 27 rfl (by decide) rfl ?_
    refine LX6_totalOf_27_29 (a := a) (ar := true) (by omega) (by omega) sz 0 0 (by omega) ?_
    refine g_iload_n dX6_totalOf_64 rfl 65 rfl rfl ?_
    refine g_ireturn dX6_totalOf_65 rfl rfl (Nat.le_refl _) (Nat.le_refl _) ?_
    have e : (rX6_totalOf_29 ki ag nt a sz sd) = (gLp (fX6_totalOf_27_29 ki ag nt a true) sz 0 0) := by rw [rX6_totalOf_29, if_neg c1]
    rw [e]
    exact ⟨rfl, rfl⟩
set_option maxRecDepth 100000 in
set_option maxHeartbeats 4000000 in
theorem LX6_totalOf_27_32 {w : gW} {al : Bool} {tl rn ki ag co pa me dki dag dco dpa dme nt tnt os og cs mo le se ab : Int32 → Int32} {tn rp wa be pr dso drs dwa dbe dpr nm nb nc nd ns np tnm tns tnp ph kh oh pk pc lf cu cd : Int32} {pf : Nat → Option Nat} {pst kst : Nat → gS} {n : Nat} {P : gP} {sz bo cr de sd : Nat} {a : Nat} {ar : Bool} (hs : sz ≤ 9) (ha : a < 512)  : ∀ (d i : Nat) (u0 : Int32), i + d = sz → G w gT0 al n mX6_totalOf 0 0 P 0 0 (hC tl tn rn rp ki ag co pa me (nI sd) (nI sz) wa be pr dki dag dco dpa dme dso drs dwa dbe dpr nt nm nb nc nd ns np tnt tnm (nI bo) (nI cr) (nI de) tns tnp pf ph pst kh kst os og oh cs mo le se pk pc lf ab cu cd) 64 [.ref 32, .int (nI a), .int (gB ar), .int (gLp (fX6_totalOf_27_29 ki ag tnt a ar) d i u0), .int (nI sz)] [] → G w gT0 al n mX6_totalOf 0 0 P 0 0 (hC tl tn rn rp ki ag co pa me (nI sd) (nI sz) wa be pr dki dag dco dpa dme dso drs dwa dbe dpr nt nm nb nc nd ns np tnt tnm (nI bo) (nI cr) (nI de) tns tnp pf ph pst kh kst os og oh cs mo le se pk pc lf ab cu cd) 27 [.ref 32, .int (nI a), .int (gB ar), .int u0, .int (nI i)] [] := by
  intro d
  induction d with
  | zero =>
    intro i u0 hi k
    have hN : i = sz := by omega
    rw [hN]
    rw [hN] at k
    refine g_iload dX6_totalOf_27 29 rfl rfl ?_
    refine g_aload_n dX6_totalOf_29 rfl 30 rfl rfl ?_
    refine g_get (v := .ref 7) dX6_totalOf_30 33 rfl lX6_20 rfl rfl ?_
    refine g_get (v := .int (nI sz)) dX6_totalOf_33 36 rfl lX6_60 rfl rfl ?_
    refine g_icmp_ge dX6_totalOf_36 64 rfl 39 rfl (fun _ => ?_) (fun c => absurd (nI_le (Nat.le_refl _) (by omega)) c)
    exact k
  | succ d ih =>
    intro i u0 hi k
    refine g_iload dX6_totalOf_27 29 rfl rfl ?_
    refine g_aload_n dX6_totalOf_29 rfl 30 rfl rfl ?_
    refine g_get (v := .ref 7) dX6_totalOf_30 33 rfl lX6_20 rfl rfl ?_
    refine g_get (v := .int (nI sz)) dX6_totalOf_33 36 rfl lX6_60 rfl rfl ?_
    refine g_icmp_ge dX6_totalOf_36 64 rfl 39 rfl (fun c => absurd c (nI_ge (by omega) (by omega))) (fun _ => ?_)
    refine g_iload_n dX6_totalOf_39 rfl 40 rfl rfl ?_
    refine g_iload dX6_totalOf_40 42 rfl rfl ?_
    refine g_cSNv (as := [.int (nI a), .int (nI i)]) (st := []) dX6_totalOf_42 45 rfl kX6_69 ⟨Nat.le_of_ble_eq_true rfl, Nat.le_of_ble_eq_true rfl⟩ (MX9_has a i (by omega) (by omega)) rfl (Nat.le_of_ble_eq_true rfl) (Nat.le_refl _) (Nat.le_refl _) ?_
    refine g_if_eq dX6_totalOf_45 58 rfl 48 rfl (fun c1 => ?_) (fun c1 => ?_)
    · replace c1 := gB_f c1
      refine g_iinc4 dX6_totalOf_58 61 rfl 1 (by decide) (nI (i + 1)) (nI_add _ 1) (by decide) rfl ?_
      refine g_goto dX6_totalOf_61 27 rfl ?_
      have e : (fX6_totalOf_27_29 ki ag tnt a ar) i u0 = u0 := by rw [fX6_totalOf_27_29, if_neg c1]
      refine ih (i + 1) u0 (by omega) ?_
      rw [← e]
      exact k
    · replace c1 := gB_t c1
      refine g_iload_n dX6_totalOf_48 rfl 49 rfl rfl ?_
      refine g_aload_n dX6_totalOf_49 rfl 50 rfl rfl ?_
      refine g_iload dX6_totalOf_50 52 rfl rfl ?_
      refine g_iload_n dX6_totalOf_52 rfl 53 rfl rfl ?_
      refine g_cVv (as := [.int (nI i), .int (gB ar)]) (st := [.int u0]) dX6_totalOf_53 56 rfl kX6_81 ⟨Nat.le_of_ble_eq_true rfl, Nat.le_of_ble_eq_true rfl⟩ (MX6_yearsOf_32 (sz := sz) (bo := bo) (cr := cr) (de := de) (sd := sd) i ar (by omega) (by omega)) rfl rfl rfl rfl (Nat.le_of_ble_eq_true rfl) (Nat.le_refl _) (Nat.le_refl _) ?_
      refine g_iadd dX6_totalOf_56 57 rfl ?_
      refine g_istore3 dX6_totalOf_57 58 rfl (by decide) rfl ?_
      refine g_iinc4 dX6_totalOf_58 61 rfl 1 (by decide) (nI (i + 1)) (nI_add _ 1) (by decide) rfl ?_
      refine g_goto dX6_totalOf_61 27 rfl ?_
      have e : (fX6_totalOf_27_29 ki ag tnt a ar) i u0 = (u0 + (rX6_yearsOf_29 ki ag tnt i ar)) := by rw [fX6_totalOf_27_29, if_pos c1]
      refine ih (i + 1) (u0 + (rX6_yearsOf_29 ki ag tnt i ar)) (by omega) ?_
      rw [← e]
      exact k
set_option maxRecDepth 100000 in
set_option maxHeartbeats 4000000 in
theorem MX6_totalOf_32 {w : gW} {al : Bool} {tl rn ki ag co pa me dki dag dco dpa dme nt tnt os og cs mo le se ab : Int32 → Int32} {tn rp wa be pr dso drs dwa dbe dpr nm nb nc nd ns np tnm tns tnp ph kh oh pk pc lf cu cd : Int32} {pf : Nat → Option Nat} {pst kst : Nat → gS} {sz bo cr de sd : Nat} (a : Nat) (hs : sz ≤ 9) (hsd : sd < 512) (ha : a < 512)  : M w gT0 al mX6_totalOf 0 0 (hC tl tn rn rp ki ag co pa me (nI sd) (nI sz) wa be pr dki dag dco dpa dme dso drs dwa dbe dpr nt nm nb nc nd ns np tnt tnm (nI bo) (nI cr) (nI de) tns tnp pf ph pst kh kst os og oh cs mo le se pk pc lf ab cu cd) [.ref 32, .int (nI a)] (gEq (hC tl tn rn rp ki ag co pa me (nI sd) (nI sz) wa be pr dki dag dco dpa dme dso drs dwa dbe dpr nt nm nb nc nd ns np tnt tnm (nI bo) (nI cr) (nI de) tns tnp pf ph pst kh kst os og oh cs mo le se pk pc lf ab cu cd) (some (.int (rX6_totalOf_29 ki ag tnt a sz sd)))) := by
  refine M.of (L0 := [.ref 32, .int (nI a), gF, gF, gF]) (by decide +kernel) (Nat.le_of_ble_eq_true rfl) rfl ?_
  refine g_iload_n dX6_totalOf_0 rfl 1 rfl rfl ?_
  refine g_aload_n dX6_totalOf_1 rfl 2 rfl rfl ?_
  refine g_get (v := .ref 7) dX6_totalOf_2 5 rfl lX6_20 rfl rfl ?_
  refine g_get (v := .int (nI sd)) dX6_totalOf_5 8 rfl lX6_73 rfl rfl ?_
  refine g_iand' dX6_totalOf_8 9 rfl (nI (a &&& sd)) (z_and _ _) ?_
  refine g_cSv (as := [.int (nI (a &&& sd))]) (st := []) dX6_totalOf_9 12 rfl kX6_76 ⟨Nat.le_of_ble_eq_true rfl, Nat.le_of_ble_eq_true rfl⟩ (MJ6_bitCount (a &&& sd) (and_lt (by omega))) rfl (Nat.le_of_ble_eq_true rfl) (Nat.le_refl _) (Nat.le_refl _) ?_
  refine g_iconst 2 dX6_totalOf_12 13 rfl (by decide) ?_
  refine g_icmp_lt dX6_totalOf_13 20 rfl 16 rfl (fun c1 => ?_) (fun c1 => ?_)
  · refine g_iconst 0 dX6_totalOf_20 21 rfl (by decide) ?_
    refine g_istore2 dX6_totalOf_21 22 rfl (by decide) rfl ?_
    refine g_iconst 0 dX6_totalOf_22 23 rfl (by decide) ?_
    refine g_istore3 dX6_totalOf_23 24 rfl (by decide) rfl ?_
    refine g_iconst 0 dX6_totalOf_24 25 rfl (by decide) ?_
    refine g_istore4 dX6_totalOf_25 27 rfl (by decide) rfl ?_
    refine LX6_totalOf_27_32 (a := a) (ar := false) (by omega) (by omega) sz 0 0 (by omega) ?_
    refine g_iload_n dX6_totalOf_64 rfl 65 rfl rfl ?_
    refine g_ireturn dX6_totalOf_65 rfl rfl (Nat.le_refl _) (Nat.le_refl _) ?_
    have e : (rX6_totalOf_29 ki ag tnt a sz sd) = (gLp (fX6_totalOf_27_29 ki ag tnt a false) sz 0 0) := by rw [rX6_totalOf_29, if_pos c1]
    rw [e]
    exact ⟨rfl, rfl⟩
  · refine g_iconst 1 dX6_totalOf_16 17 rfl (by decide) ?_
    refine g_goto dX6_totalOf_17 21 rfl ?_
    refine g_istore2 dX6_totalOf_21 22 rfl (by decide) rfl ?_
    refine g_iconst 0 dX6_totalOf_22 23 rfl (by decide) ?_
    refine g_istore3 dX6_totalOf_23 24 rfl (by decide) rfl ?_
    refine g_iconst 0 dX6_totalOf_24 25 rfl (by decide) ?_
    refine g_istore4 dX6_totalOf_25 27 rfl (by decide) rfl ?_
    refine LX6_totalOf_27_32 (a := a) (ar := true) (by omega) (by omega) sz 0 0 (by omega) ?_
    refine g_iload_n dX6_totalOf_64 rfl 65 rfl rfl ?_
    refine g_ireturn dX6_totalOf_65 rfl rfl (Nat.le_refl _) (Nat.le_refl _) ?_
    have e : (rX6_totalOf_29 ki ag tnt a sz sd) = (gLp (fX6_totalOf_27_29 ki ag tnt a true) sz 0 0) := by rw [rX6_totalOf_29, if_neg c1]
    rw [e]
    exact ⟨rfl, rfl⟩
def fX6_partsNoParty_2_29 (me : Int32 → Int32) (a : Nat) (sz : Nat) (cr : Nat) (de : Nat) : Nat → (Bool) → Bool × (Bool)
  | i, br => (if (((me (nI i)) &&& (nI (remN sz cr de))) &&& (nI a)) = 0 then (false, false) else (if (((me (nI i)) &&& (nI (remN sz cr de))) &&& (nI a)) = ((me (nI i)) &&& (nI (remN sz cr de))) then (false, false) else (true, true)))
set_option maxRecDepth 100000 in
set_option maxHeartbeats 4000000 in
theorem LX6_partsNoParty_2_29 {w : gW} {al : Bool} {tl rn ki ag co pa me dki dag dco dpa dme nt tnt os og cs mo le se ab : Int32 → Int32} {tn rp wa be pr dso drs dwa dbe dpr nm ns np tnm tnb tnc tnd tns tnp ph kh oh pk pc lf cu cd : Int32} {pf : Nat → Option Nat} {pst kst : Nat → gS} {n : Nat} {P : gP} {sz bo cr de sd : Nat} {a : Nat} (hs : sz ≤ 9)  : ∀ (d i : Nat) , i + d = 6 → (¬ (gWh (fX6_partsNoParty_2_29 me a sz cr de) d i false) = true → G w gT0 al n mX6_partsNoParty 0 0 P 0 0 (hC tl tn rn rp ki ag co pa me (nI sd) (nI sz) wa be pr dki dag dco dpa dme dso drs dwa dbe dpr nt nm (nI bo) (nI cr) (nI de) ns np tnt tnm tnb tnc tnd tns tnp pf ph pst kh kst os og oh cs mo le se pk pc lf ab cu cd) 48 [.ref 29, .int (nI a), gF, gF, gF] []) → ((gWh (fX6_partsNoParty_2_29 me a sz cr de) d i false) = true → P (hC tl tn rn rp ki ag co pa me (nI sd) (nI sz) wa be pr dki dag dco dpa dme dso drs dwa dbe dpr nt nm (nI bo) (nI cr) (nI de) ns np tnt tnm tnb tnc tnd tns tnp pf ph pst kh kst os og oh cs mo le se pk pc lf ab cu cd) (some (.int 0))) → G w gT0 al n mX6_partsNoParty 0 0 P 0 0 (hC tl tn rn rp ki ag co pa me (nI sd) (nI sz) wa be pr dki dag dco dpa dme dso drs dwa dbe dpr nt nm (nI bo) (nI cr) (nI de) ns np tnt tnm tnb tnc tnd tns tnp pf ph pst kh kst os og oh cs mo le se pk pc lf ab cu cd) 2 [.ref 29, .int (nI a), .int (nI i), gF, gF] [] := by
  intro d
  induction d with
  | zero =>
    intro i hi k k2
    have hN : i = 6 := by omega
    rw [hN]
    rw [hN] at k
    refine g_iload_n dX6_partsNoParty_2 rfl 3 rfl rfl ?_
    refine g_iconst 5 dX6_partsNoParty_3 4 rfl (by decide) ?_
    refine g_icmp_gt dX6_partsNoParty_4 48 rfl 7 rfl (fun _ => ?_) (fun c => absurd (by decide) c)
    refine g_fgt (L' := [.ref 29, .int (nI a), gF, gF, gF]) ⟨Or.inl rfl, Or.inl rfl, Or.inr rfl, Or.inl rfl, Or.inl rfl, trivial⟩ ?_
    exact k (by simp [gWh])
  | succ d ih =>
    intro i hi k k2
    refine g_iload_n dX6_partsNoParty_2 rfl 3 rfl rfl ?_
    refine g_iconst 5 dX6_partsNoParty_3 4 rfl (by decide) ?_
    refine g_icmp_gt dX6_partsNoParty_4 48 rfl 7 rfl (fun c => absurd c (nI_nlt (a := 5) (by omega) (by omega))) (fun _ => ?_)
    refine g_aload_n dX6_partsNoParty_7 rfl 8 rfl rfl ?_
    refine g_get (v := .ref 7) dX6_partsNoParty_8 11 rfl lX6_20 rfl rfl ?_
    refine g_get (v := .ref 16) dX6_partsNoParty_11 14 rfl lX6_113 rfl rfl ?_
    refine g_iload_n dX6_partsNoParty_14 rfl 15 rfl rfl ?_
    refine g_cVv (as := [.int (nI i)]) (st := []) dX6_partsNoParty_15 18 rfl kX6_46 ⟨Nat.le_of_ble_eq_true rfl, Nat.le_of_ble_eq_true rfl⟩ (MX3_atN (k := 16) (j := 17) (N := 6) (f := me) rfl rfl (by decide) i (by omega)) rfl rfl rfl rfl (Nat.le_of_ble_eq_true rfl) (Nat.le_refl _) (Nat.le_refl _) ?_
    refine g_aload_n dX6_partsNoParty_18 rfl 19 rfl rfl ?_
    refine g_cVv (as := []) (st := [.int (me (nI i))]) dX6_partsNoParty_19 22 rfl kX6_66 ⟨Nat.le_of_ble_eq_true rfl, Nat.le_of_ble_eq_true rfl⟩ (MX6_remaining_29' (sz := sz) (bo := bo) (cr := cr) (de := de) (sd := sd) (by omega)) rfl rfl rfl rfl (Nat.le_of_ble_eq_true rfl) (Nat.le_refl _) (Nat.le_refl _) ?_
    refine g_iand dX6_partsNoParty_22 23 rfl ?_
    refine g_istore3 dX6_partsNoParty_23 24 rfl (by decide) rfl ?_
    refine g_iload_n dX6_partsNoParty_24 rfl 25 rfl rfl ?_
    refine g_iload_n dX6_partsNoParty_25 rfl 26 rfl rfl ?_
    refine g_iand dX6_partsNoParty_26 27 rfl ?_
    refine g_istore4 dX6_partsNoParty_27 29 rfl (by decide) rfl ?_
    refine g_iload dX6_partsNoParty_29 31 rfl rfl ?_
    refine g_if_eq dX6_partsNoParty_31 42 rfl 34 rfl (fun c1 => ?_) (fun c1 => ?_)
    · refine g_iinc2 dX6_partsNoParty_42 45 rfl 1 (by decide) (nI (i + 1)) (nI_add _ 1) (by decide) rfl ?_
      refine g_goto dX6_partsNoParty_45 2 rfl ?_
      refine g_fgt (L' := [.ref 29, .int (nI a), .int (nI (i + 1)), gF, gF]) ⟨Or.inl rfl, Or.inl rfl, Or.inl rfl, Or.inr rfl, Or.inr rfl, trivial⟩ ?_
      have e : (fX6_partsNoParty_2_29 me a sz cr de) i false = (false, false) := by rw [fX6_partsNoParty_2_29, if_pos c1]
      rw [gWh_f e] at k k2
      refine ih (i + 1)  (by omega) k k2
    · refine g_iload dX6_partsNoParty_34 36 rfl rfl ?_
      refine g_iload_n dX6_partsNoParty_36 rfl 37 rfl rfl ?_
      refine g_icmp_eq dX6_partsNoParty_37 42 rfl 40 rfl (fun c2 => ?_) (fun c2 => ?_)
      · refine g_iinc2 dX6_partsNoParty_42 45 rfl 1 (by decide) (nI (i + 1)) (nI_add _ 1) (by decide) rfl ?_
        refine g_goto dX6_partsNoParty_45 2 rfl ?_
        refine g_fgt (L' := [.ref 29, .int (nI a), .int (nI (i + 1)), gF, gF]) ⟨Or.inl rfl, Or.inl rfl, Or.inl rfl, Or.inr rfl, Or.inr rfl, trivial⟩ ?_
        have e : (fX6_partsNoParty_2_29 me a sz cr de) i false = (false, false) := by rw [fX6_partsNoParty_2_29, if_neg c1, if_pos c2]
        rw [gWh_f e] at k k2
        refine ih (i + 1)  (by omega) k k2
      · refine g_iconst 0 dX6_partsNoParty_40 41 rfl (by decide) ?_
        refine g_ireturn dX6_partsNoParty_41 rfl rfl (Nat.le_refl _) (Nat.le_refl _) ?_
        have e : (fX6_partsNoParty_2_29 me a sz cr de) i false = (true, true) := by rw [fX6_partsNoParty_2_29, if_neg c1, if_neg c2]
        rw [gWh_t e] at k2
        exact k2 rfl
def rX6_partsNoParty_29 (me : Int32 → Int32) (a : Nat) (sz : Nat) (cr : Nat) (de : Nat) : Bool := (if (gWh (fX6_partsNoParty_2_29 me a sz cr de) (6 - 1) 1 false) = true then false else true)
set_option maxRecDepth 100000 in
set_option maxHeartbeats 4000000 in
theorem MX6_partsNoParty_29 {w : gW} {al : Bool} {tl rn ki ag co pa me dki dag dco dpa dme nt tnt os og cs mo le se ab : Int32 → Int32} {tn rp wa be pr dso drs dwa dbe dpr nm ns np tnm tnb tnc tnd tns tnp ph kh oh pk pc lf cu cd : Int32} {pf : Nat → Option Nat} {pst kst : Nat → gS} {sz bo cr de sd : Nat} (a : Nat) (hs : sz ≤ 9)  : M w gT0 al mX6_partsNoParty 0 0 (hC tl tn rn rp ki ag co pa me (nI sd) (nI sz) wa be pr dki dag dco dpa dme dso drs dwa dbe dpr nt nm (nI bo) (nI cr) (nI de) ns np tnt tnm tnb tnc tnd tns tnp pf ph pst kh kst os og oh cs mo le se pk pc lf ab cu cd) [.ref 29, .int (nI a)] (gEq (hC tl tn rn rp ki ag co pa me (nI sd) (nI sz) wa be pr dki dag dco dpa dme dso drs dwa dbe dpr nt nm (nI bo) (nI cr) (nI de) ns np tnt tnm tnb tnc tnd tns tnp pf ph pst kh kst os og oh cs mo le se pk pc lf ab cu cd) (some (.int (gB (rX6_partsNoParty_29 me a sz cr de))))) := by
  refine M.of (L0 := [.ref 29, .int (nI a), gF, gF, gF]) (by decide +kernel) (Nat.le_of_ble_eq_true rfl) rfl ?_
  refine g_iconst 1 dX6_partsNoParty_0 1 rfl (by decide) ?_
  refine g_istore2 dX6_partsNoParty_1 2 rfl (by decide) rfl ?_
  refine LX6_partsNoParty_2_29 (a := a) (by omega) (6 - 1) 1  (by omega) (fun c1 => ?_) (fun c1 => ?_)
  · refine g_iconst 1 dX6_partsNoParty_48 49 rfl (by decide) ?_
    refine g_ireturn dX6_partsNoParty_49 rfl rfl (Nat.le_refl _) (Nat.le_refl _) ?_
    have e : (rX6_partsNoParty_29 me a sz cr de) = true := by rw [rX6_partsNoParty_29, if_neg c1]
    rw [e]
    exact ⟨rfl, rfl⟩
  · have e : (rX6_partsNoParty_29 me a sz cr de) = false := by rw [rX6_partsNoParty_29, if_pos c1]
    rw [e]
    exact ⟨rfl, rfl⟩
set_option maxRecDepth 100000 in
set_option maxHeartbeats 4000000 in
theorem LX6_partsNoParty_2_32 {w : gW} {al : Bool} {tl rn ki ag co pa me dki dag dco dpa dme nt tnt os og cs mo le se ab : Int32 → Int32} {tn rp wa be pr dso drs dwa dbe dpr nm nb nc nd ns np tnm tns tnp ph kh oh pk pc lf cu cd : Int32} {pf : Nat → Option Nat} {pst kst : Nat → gS} {n : Nat} {P : gP} {sz bo cr de sd : Nat} {a : Nat} (hs : sz ≤ 9)  : ∀ (d i : Nat) , i + d = 6 → (¬ (gWh (fX6_partsNoParty_2_29 me a sz cr de) d i false) = true → G w gT0 al n mX6_partsNoParty 0 0 P 0 0 (hC tl tn rn rp ki ag co pa me (nI sd) (nI sz) wa be pr dki dag dco dpa dme dso drs dwa dbe dpr nt nm nb nc nd ns np tnt tnm (nI bo) (nI cr) (nI de) tns tnp pf ph pst kh kst os og oh cs mo le se pk pc lf ab cu cd) 48 [.ref 32, .int (nI a), gF, gF, gF] []) → ((gWh (fX6_partsNoParty_2_29 me a sz cr de) d i false) = true → P (hC tl tn rn rp ki ag co pa me (nI sd) (nI sz) wa be pr dki dag dco dpa dme dso drs dwa dbe dpr nt nm nb nc nd ns np tnt tnm (nI bo) (nI cr) (nI de) tns tnp pf ph pst kh kst os og oh cs mo le se pk pc lf ab cu cd) (some (.int 0))) → G w gT0 al n mX6_partsNoParty 0 0 P 0 0 (hC tl tn rn rp ki ag co pa me (nI sd) (nI sz) wa be pr dki dag dco dpa dme dso drs dwa dbe dpr nt nm nb nc nd ns np tnt tnm (nI bo) (nI cr) (nI de) tns tnp pf ph pst kh kst os og oh cs mo le se pk pc lf ab cu cd) 2 [.ref 32, .int (nI a), .int (nI i), gF, gF] [] := by
  intro d
  induction d with
  | zero =>
    intro i hi k k2
    have hN : i = 6 := by omega
    rw [hN]
    rw [hN] at k
    refine g_iload_n dX6_partsNoParty_2 rfl 3 rfl rfl ?_
    refine g_iconst 5 dX6_partsNoParty_3 4 rfl (by decide) ?_
    refine g_icmp_gt dX6_partsNoParty_4 48 rfl 7 rfl (fun _ => ?_) (fun c => absurd (by decide) c)
    refine g_fgt (L' := [.ref 32, .int (nI a), gF, gF, gF]) ⟨Or.inl rfl, Or.inl rfl, Or.inr rfl, Or.inl rfl, Or.inl rfl, trivial⟩ ?_
    exact k (by simp [gWh])
  | succ d ih =>
    intro i hi k k2
    refine g_iload_n dX6_partsNoParty_2 rfl 3 rfl rfl ?_
    refine g_iconst 5 dX6_partsNoParty_3 4 rfl (by decide) ?_
    refine g_icmp_gt dX6_partsNoParty_4 48 rfl 7 rfl (fun c => absurd c (nI_nlt (a := 5) (by omega) (by omega))) (fun _ => ?_)
    refine g_aload_n dX6_partsNoParty_7 rfl 8 rfl rfl ?_
    refine g_get (v := .ref 7) dX6_partsNoParty_8 11 rfl lX6_20 rfl rfl ?_
    refine g_get (v := .ref 16) dX6_partsNoParty_11 14 rfl lX6_113 rfl rfl ?_
    refine g_iload_n dX6_partsNoParty_14 rfl 15 rfl rfl ?_
    refine g_cVv (as := [.int (nI i)]) (st := []) dX6_partsNoParty_15 18 rfl kX6_46 ⟨Nat.le_of_ble_eq_true rfl, Nat.le_of_ble_eq_true rfl⟩ (MX3_atN (k := 16) (j := 17) (N := 6) (f := me) rfl rfl (by decide) i (by omega)) rfl rfl rfl rfl (Nat.le_of_ble_eq_true rfl) (Nat.le_refl _) (Nat.le_refl _) ?_
    refine g_aload_n dX6_partsNoParty_18 rfl 19 rfl rfl ?_
    refine g_cVv (as := []) (st := [.int (me (nI i))]) dX6_partsNoParty_19 22 rfl kX6_66 ⟨Nat.le_of_ble_eq_true rfl, Nat.le_of_ble_eq_true rfl⟩ (MX6_remaining_32' (sz := sz) (bo := bo) (cr := cr) (de := de) (sd := sd) (by omega)) rfl rfl rfl rfl (Nat.le_of_ble_eq_true rfl) (Nat.le_refl _) (Nat.le_refl _) ?_
    refine g_iand dX6_partsNoParty_22 23 rfl ?_
    refine g_istore3 dX6_partsNoParty_23 24 rfl (by decide) rfl ?_
    refine g_iload_n dX6_partsNoParty_24 rfl 25 rfl rfl ?_
    refine g_iload_n dX6_partsNoParty_25 rfl 26 rfl rfl ?_
    refine g_iand dX6_partsNoParty_26 27 rfl ?_
    refine g_istore4 dX6_partsNoParty_27 29 rfl (by decide) rfl ?_
    refine g_iload dX6_partsNoParty_29 31 rfl rfl ?_
    refine g_if_eq dX6_partsNoParty_31 42 rfl 34 rfl (fun c1 => ?_) (fun c1 => ?_)
    · refine g_iinc2 dX6_partsNoParty_42 45 rfl 1 (by decide) (nI (i + 1)) (nI_add _ 1) (by decide) rfl ?_
      refine g_goto dX6_partsNoParty_45 2 rfl ?_
      refine g_fgt (L' := [.ref 32, .int (nI a), .int (nI (i + 1)), gF, gF]) ⟨Or.inl rfl, Or.inl rfl, Or.inl rfl, Or.inr rfl, Or.inr rfl, trivial⟩ ?_
      have e : (fX6_partsNoParty_2_29 me a sz cr de) i false = (false, false) := by rw [fX6_partsNoParty_2_29, if_pos c1]
      rw [gWh_f e] at k k2
      refine ih (i + 1)  (by omega) k k2
    · refine g_iload dX6_partsNoParty_34 36 rfl rfl ?_
      refine g_iload_n dX6_partsNoParty_36 rfl 37 rfl rfl ?_
      refine g_icmp_eq dX6_partsNoParty_37 42 rfl 40 rfl (fun c2 => ?_) (fun c2 => ?_)
      · refine g_iinc2 dX6_partsNoParty_42 45 rfl 1 (by decide) (nI (i + 1)) (nI_add _ 1) (by decide) rfl ?_
        refine g_goto dX6_partsNoParty_45 2 rfl ?_
        refine g_fgt (L' := [.ref 32, .int (nI a), .int (nI (i + 1)), gF, gF]) ⟨Or.inl rfl, Or.inl rfl, Or.inl rfl, Or.inr rfl, Or.inr rfl, trivial⟩ ?_
        have e : (fX6_partsNoParty_2_29 me a sz cr de) i false = (false, false) := by rw [fX6_partsNoParty_2_29, if_neg c1, if_pos c2]
        rw [gWh_f e] at k k2
        refine ih (i + 1)  (by omega) k k2
      · refine g_iconst 0 dX6_partsNoParty_40 41 rfl (by decide) ?_
        refine g_ireturn dX6_partsNoParty_41 rfl rfl (Nat.le_refl _) (Nat.le_refl _) ?_
        have e : (fX6_partsNoParty_2_29 me a sz cr de) i false = (true, true) := by rw [fX6_partsNoParty_2_29, if_neg c1, if_neg c2]
        rw [gWh_t e] at k2
        exact k2 rfl
set_option maxRecDepth 100000 in
set_option maxHeartbeats 4000000 in
theorem MX6_partsNoParty_32 {w : gW} {al : Bool} {tl rn ki ag co pa me dki dag dco dpa dme nt tnt os og cs mo le se ab : Int32 → Int32} {tn rp wa be pr dso drs dwa dbe dpr nm nb nc nd ns np tnm tns tnp ph kh oh pk pc lf cu cd : Int32} {pf : Nat → Option Nat} {pst kst : Nat → gS} {sz bo cr de sd : Nat} (a : Nat) (hs : sz ≤ 9)  : M w gT0 al mX6_partsNoParty 0 0 (hC tl tn rn rp ki ag co pa me (nI sd) (nI sz) wa be pr dki dag dco dpa dme dso drs dwa dbe dpr nt nm nb nc nd ns np tnt tnm (nI bo) (nI cr) (nI de) tns tnp pf ph pst kh kst os og oh cs mo le se pk pc lf ab cu cd) [.ref 32, .int (nI a)] (gEq (hC tl tn rn rp ki ag co pa me (nI sd) (nI sz) wa be pr dki dag dco dpa dme dso drs dwa dbe dpr nt nm nb nc nd ns np tnt tnm (nI bo) (nI cr) (nI de) tns tnp pf ph pst kh kst os og oh cs mo le se pk pc lf ab cu cd) (some (.int (gB (rX6_partsNoParty_29 me a sz cr de))))) := by
  refine M.of (L0 := [.ref 32, .int (nI a), gF, gF, gF]) (by decide +kernel) (Nat.le_of_ble_eq_true rfl) rfl ?_
  refine g_iconst 1 dX6_partsNoParty_0 1 rfl (by decide) ?_
  refine g_istore2 dX6_partsNoParty_1 2 rfl (by decide) rfl ?_
  refine LX6_partsNoParty_2_32 (a := a) (by omega) (6 - 1) 1  (by omega) (fun c1 => ?_) (fun c1 => ?_)
  · refine g_iconst 1 dX6_partsNoParty_48 49 rfl (by decide) ?_
    refine g_ireturn dX6_partsNoParty_49 rfl rfl (Nat.le_refl _) (Nat.le_refl _) ?_
    have e : (rX6_partsNoParty_29 me a sz cr de) = true := by rw [rX6_partsNoParty_29, if_neg c1]
    rw [e]
    exact ⟨rfl, rfl⟩
  · have e : (rX6_partsNoParty_29 me a sz cr de) = false := by rw [rX6_partsNoParty_29, if_pos c1]
    rw [e]
    exact ⟨rfl, rfl⟩
def rX6_costOf_29 (ki : Int32 → Int32) (ag : Int32 → Int32) (me : Int32 → Int32) (wa : Int32) (be : Int32) (pr : Int32) (nt : Int32 → Int32) (a : Nat) (sz : Nat) (cr : Nat) (de : Nat) (sd : Nat) : Int32 := (if (rX6_partsNoParty_29 me a sz cr de) = true then (if ((rX6_totalOf_29 ki ag nt a sz sd) - wa) < 0 then (-4) else (if ((rX6_totalOf_29 ki ag nt a sz sd) - wa) ≤ be then (((rX6_totalOf_29 ki ag nt a sz sd) - wa) * pr) else (-4))) else (-4))
set_option maxRecDepth 100000 in
set_option maxHeartbeats 4000000 in
theorem MX6_costOf_29 {w : gW} {al : Bool} {tl rn ki ag co pa me dki dag dco dpa dme nt tnt os og cs mo le se ab : Int32 → Int32} {tn rp wa be pr dso drs dwa dbe dpr nm ns np tnm tnb tnc tnd tns tnp ph kh oh pk pc lf cu cd : Int32} {pf : Nat → Option Nat} {pst kst : Nat → gS} {sz bo cr de sd : Nat} (a : Nat) (hs : sz ≤ 9) (hsd : sd < 512) (ha : a < 512)  : M w gT0 al mX6_costOf 0 0 (hC tl tn rn rp ki ag co pa me (nI sd) (nI sz) wa be pr dki dag dco dpa dme dso drs dwa dbe dpr nt nm (nI bo) (nI cr) (nI de) ns np tnt tnm tnb tnc tnd tns tnp pf ph pst kh kst os og oh cs mo le se pk pc lf ab cu cd) [.ref 29, .int (nI a)] (gEq (hC tl tn rn rp ki ag co pa me (nI sd) (nI sz) wa be pr dki dag dco dpa dme dso drs dwa dbe dpr nt nm (nI bo) (nI cr) (nI de) ns np tnt tnm tnb tnc tnd tns tnp pf ph pst kh kst os og oh cs mo le se pk pc lf ab cu cd) (some (.int (rX6_costOf_29 ki ag me wa be pr nt a sz cr de sd)))) := by
  refine M.of (L0 := [.ref 29, .int (nI a), gF]) (by decide +kernel) (Nat.le_of_ble_eq_true rfl) rfl ?_
  refine g_aload_n dX6_costOf_0 rfl 1 rfl rfl ?_
  refine g_iload_n dX6_costOf_1 rfl 2 rfl rfl ?_
  refine g_cVv (as := [.int (nI a)]) (st := []) dX6_costOf_2 5 rfl kX6_97 ⟨Nat.le_of_ble_eq_true rfl, Nat.le_of_ble_eq_true rfl⟩ (MX6_partsNoParty_29 (sz := sz) (bo := bo) (cr := cr) (de := de) (sd := sd) a (by omega)) rfl rfl rfl rfl (Nat.le_of_ble_eq_true rfl) (Nat.le_refl _) (Nat.le_refl _) ?_
  refine g_if_ne dX6_costOf_5 11 rfl 8 rfl (fun c1 => ?_) (fun c1 => ?_)
  · replace c1 := gB_t c1
    refine g_aload_n dX6_costOf_11 rfl 12 rfl rfl ?_
    refine g_iload_n dX6_costOf_12 rfl 13 rfl rfl ?_
    refine g_cVv (as := [.int (nI a)]) (st := []) dX6_costOf_13 16 rfl kX6_101 ⟨Nat.le_of_ble_eq_true rfl, Nat.le_of_ble_eq_true rfl⟩ (MX6_totalOf_29 (sz := sz) (bo := bo) (cr := cr) (de := de) (sd := sd) a (by omega) (by omega) (by omega)) rfl rfl rfl rfl (Nat.le_of_ble_eq_true rfl) (Nat.le_refl _) (Nat.le_refl _) ?_
    refine g_aload_n dX6_costOf_16 rfl 17 rfl rfl ?_
    refine g_get (v := .ref 7) dX6_costOf_17 20 rfl lX6_20 rfl rfl ?_
    refine g_get (v := .int wa) dX6_costOf_20 23 rfl lX6_104 rfl rfl ?_
    refine g_isub dX6_costOf_23 24 rfl ?_
    refine g_istore2 dX6_costOf_24 25 rfl (by decide) rfl ?_
    refine g_iload_n dX6_costOf_25 rfl 26 rfl rfl ?_
    refine g_if_lt dX6_costOf_26 40 rfl 29 rfl (fun c2 => ?_) (fun c2 => ?_)
    · refine g_bipush (-4) dX6_costOf_40 42 rfl (by decide) ?_
      refine g_goto dX6_costOf_42 54 rfl ?_
      refine g_ireturn dX6_costOf_54 rfl rfl (Nat.le_refl _) (Nat.le_refl _) ?_
      have e : (rX6_costOf_29 ki ag me wa be pr nt a sz cr de sd) = (-4) := by rw [rX6_costOf_29, if_pos c1, if_pos c2]
      rw [e]
      exact ⟨rfl, rfl⟩
    · refine g_iload_n dX6_costOf_29 rfl 30 rfl rfl ?_
      refine g_aload_n dX6_costOf_30 rfl 31 rfl rfl ?_
      refine g_get (v := .ref 7) dX6_costOf_31 34 rfl lX6_20 rfl rfl ?_
      refine g_get (v := .int be) dX6_costOf_34 37 rfl lX6_107 rfl rfl ?_
      refine g_icmp_le dX6_costOf_37 45 rfl 40 rfl (fun c3 => ?_) (fun c3 => ?_)
      · refine g_iload_n dX6_costOf_45 rfl 46 rfl rfl ?_
        refine g_aload_n dX6_costOf_46 rfl 47 rfl rfl ?_
        refine g_get (v := .ref 7) dX6_costOf_47 50 rfl lX6_20 rfl rfl ?_
        refine g_get (v := .int pr) dX6_costOf_50 53 rfl lX6_110 rfl rfl ?_
        refine g_imul dX6_costOf_53 54 rfl ?_
        refine g_ireturn dX6_costOf_54 rfl rfl (Nat.le_refl _) (Nat.le_refl _) ?_
        have e : (rX6_costOf_29 ki ag me wa be pr nt a sz cr de sd) = (((rX6_totalOf_29 ki ag nt a sz sd) - wa) * pr) := by rw [rX6_costOf_29, if_pos c1, if_neg c2, if_pos c3]
        rw [e]
        exact ⟨rfl, rfl⟩
      · refine g_bipush (-4) dX6_costOf_40 42 rfl (by decide) ?_
        refine g_goto dX6_costOf_42 54 rfl ?_
        refine g_ireturn dX6_costOf_54 rfl rfl (Nat.le_refl _) (Nat.le_refl _) ?_
        have e : (rX6_costOf_29 ki ag me wa be pr nt a sz cr de sd) = (-4) := by rw [rX6_costOf_29, if_pos c1, if_neg c2, if_neg c3]
        rw [e]
        exact ⟨rfl, rfl⟩
  · replace c1 := gB_f c1
    refine g_bipush (-4) dX6_costOf_8 10 rfl (by decide) ?_
    refine g_ireturn dX6_costOf_10 rfl rfl (Nat.le_refl _) (Nat.le_refl _) ?_
    have e : (rX6_costOf_29 ki ag me wa be pr nt a sz cr de sd) = (-4) := by rw [rX6_costOf_29, if_neg c1]
    rw [e]
    exact ⟨rfl, rfl⟩
set_option maxRecDepth 100000 in
set_option maxHeartbeats 4000000 in
theorem MX6_costOf_32 {w : gW} {al : Bool} {tl rn ki ag co pa me dki dag dco dpa dme nt tnt os og cs mo le se ab : Int32 → Int32} {tn rp wa be pr dso drs dwa dbe dpr nm nb nc nd ns np tnm tns tnp ph kh oh pk pc lf cu cd : Int32} {pf : Nat → Option Nat} {pst kst : Nat → gS} {sz bo cr de sd : Nat} (a : Nat) (hs : sz ≤ 9) (hsd : sd < 512) (ha : a < 512)  : M w gT0 al mX6_costOf 0 0 (hC tl tn rn rp ki ag co pa me (nI sd) (nI sz) wa be pr dki dag dco dpa dme dso drs dwa dbe dpr nt nm nb nc nd ns np tnt tnm (nI bo) (nI cr) (nI de) tns tnp pf ph pst kh kst os og oh cs mo le se pk pc lf ab cu cd) [.ref 32, .int (nI a)] (gEq (hC tl tn rn rp ki ag co pa me (nI sd) (nI sz) wa be pr dki dag dco dpa dme dso drs dwa dbe dpr nt nm nb nc nd ns np tnt tnm (nI bo) (nI cr) (nI de) tns tnp pf ph pst kh kst os og oh cs mo le se pk pc lf ab cu cd) (some (.int (rX6_costOf_29 ki ag me wa be pr tnt a sz cr de sd)))) := by
  refine M.of (L0 := [.ref 32, .int (nI a), gF]) (by decide +kernel) (Nat.le_of_ble_eq_true rfl) rfl ?_
  refine g_aload_n dX6_costOf_0 rfl 1 rfl rfl ?_
  refine g_iload_n dX6_costOf_1 rfl 2 rfl rfl ?_
  refine g_cVv (as := [.int (nI a)]) (st := []) dX6_costOf_2 5 rfl kX6_97 ⟨Nat.le_of_ble_eq_true rfl, Nat.le_of_ble_eq_true rfl⟩ (MX6_partsNoParty_32 (sz := sz) (bo := bo) (cr := cr) (de := de) (sd := sd) a (by omega)) rfl rfl rfl rfl (Nat.le_of_ble_eq_true rfl) (Nat.le_refl _) (Nat.le_refl _) ?_
  refine g_if_ne dX6_costOf_5 11 rfl 8 rfl (fun c1 => ?_) (fun c1 => ?_)
  · replace c1 := gB_t c1
    refine g_aload_n dX6_costOf_11 rfl 12 rfl rfl ?_
    refine g_iload_n dX6_costOf_12 rfl 13 rfl rfl ?_
    refine g_cVv (as := [.int (nI a)]) (st := []) dX6_costOf_13 16 rfl kX6_101 ⟨Nat.le_of_ble_eq_true rfl, Nat.le_of_ble_eq_true rfl⟩ (MX6_totalOf_32 (sz := sz) (bo := bo) (cr := cr) (de := de) (sd := sd) a (by omega) (by omega) (by omega)) rfl rfl rfl rfl (Nat.le_of_ble_eq_true rfl) (Nat.le_refl _) (Nat.le_refl _) ?_
    refine g_aload_n dX6_costOf_16 rfl 17 rfl rfl ?_
    refine g_get (v := .ref 7) dX6_costOf_17 20 rfl lX6_20 rfl rfl ?_
    refine g_get (v := .int wa) dX6_costOf_20 23 rfl lX6_104 rfl rfl ?_
    refine g_isub dX6_costOf_23 24 rfl ?_
    refine g_istore2 dX6_costOf_24 25 rfl (by decide) rfl ?_
    refine g_iload_n dX6_costOf_25 rfl 26 rfl rfl ?_
    refine g_if_lt dX6_costOf_26 40 rfl 29 rfl (fun c2 => ?_) (fun c2 => ?_)
    · refine g_bipush (-4) dX6_costOf_40 42 rfl (by decide) ?_
      refine g_goto dX6_costOf_42 54 rfl ?_
      refine g_ireturn dX6_costOf_54 rfl rfl (Nat.le_refl _) (Nat.le_refl _) ?_
      have e : (rX6_costOf_29 ki ag me wa be pr tnt a sz cr de sd) = (-4) := by rw [rX6_costOf_29, if_pos c1, if_pos c2]
      rw [e]
      exact ⟨rfl, rfl⟩
    · refine g_iload_n dX6_costOf_29 rfl 30 rfl rfl ?_
      refine g_aload_n dX6_costOf_30 rfl 31 rfl rfl ?_
      refine g_get (v := .ref 7) dX6_costOf_31 34 rfl lX6_20 rfl rfl ?_
      refine g_get (v := .int be) dX6_costOf_34 37 rfl lX6_107 rfl rfl ?_
      refine g_icmp_le dX6_costOf_37 45 rfl 40 rfl (fun c3 => ?_) (fun c3 => ?_)
      · refine g_iload_n dX6_costOf_45 rfl 46 rfl rfl ?_
        refine g_aload_n dX6_costOf_46 rfl 47 rfl rfl ?_
        refine g_get (v := .ref 7) dX6_costOf_47 50 rfl lX6_20 rfl rfl ?_
        refine g_get (v := .int pr) dX6_costOf_50 53 rfl lX6_110 rfl rfl ?_
        refine g_imul dX6_costOf_53 54 rfl ?_
        refine g_ireturn dX6_costOf_54 rfl rfl (Nat.le_refl _) (Nat.le_refl _) ?_
        have e : (rX6_costOf_29 ki ag me wa be pr tnt a sz cr de sd) = (((rX6_totalOf_29 ki ag tnt a sz sd) - wa) * pr) := by rw [rX6_costOf_29, if_pos c1, if_neg c2, if_pos c3]
        rw [e]
        exact ⟨rfl, rfl⟩
      · refine g_bipush (-4) dX6_costOf_40 42 rfl (by decide) ?_
        refine g_goto dX6_costOf_42 54 rfl ?_
        refine g_ireturn dX6_costOf_54 rfl rfl (Nat.le_refl _) (Nat.le_refl _) ?_
        have e : (rX6_costOf_29 ki ag me wa be pr tnt a sz cr de sd) = (-4) := by rw [rX6_costOf_29, if_pos c1, if_neg c2, if_neg c3]
        rw [e]
        exact ⟨rfl, rfl⟩
  · replace c1 := gB_f c1
    refine g_bipush (-4) dX6_costOf_8 10 rfl (by decide) ?_
    refine g_ireturn dX6_costOf_10 rfl rfl (Nat.le_refl _) (Nat.le_refl _) ?_
    have e : (rX6_costOf_29 ki ag me wa be pr tnt a sz cr de sd) = (-4) := by rw [rX6_costOf_29, if_neg c1]
    rw [e]
    exact ⟨rfl, rfl⟩
