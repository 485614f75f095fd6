/-! the class: State -/
theorem bc_all : ∀ a, a < 512 → rJ6_bitCount_0f7a4 (nI a) = rX10_ones (nI a) := by decide +kernel
theorem MJ6_bitCount {w : gW} {al : Bool} {h : gH} (a : Nat) (ha : a < 512) : M w gT0 al mJ6_bitCount_0f7a4 0 0 h [.int (nI a)] (gEq h (some (.int (nI (tOnes a))))) := by
  have q := MJ6_bitCount_0f7a4 (w := w) (al := al) (h := h) (nI a)
  rw [bc_all a ha, (tOnes_all a ha).1] at q
  exact q
theorem and_lt {a b n : Nat} (h : a < n) : a &&& b < n := Nat.lt_of_le_of_lt Nat.and_le_left h
def rX2_everyone (sz : Nat) : Int32 := (nI (2 ^ sz - 1))
set_option maxRecDepth 100000 in
set_option maxHeartbeats 4000000 in
theorem MX2_everyone {w : gW} {al : Bool} {tl rn ki ag co pa me dki dag dco dpa dme nt tnt os og cs mo le se ab : Int32 → Int32} {tn rp so wa be pr dso drs dwa dbe dpr nm nb nc nd ns np tnm tnb tnc tnd tns tnp ph kh oh pk pc lf cu cd : Int32} {pf : Nat → Option Nat} {pst kst : Nat → gS} {sz : Nat} (hs : sz ≤ 9)  : M w gT0 al mX2_everyone 0 0 (hC tl tn rn rp ki ag co pa me so (nI sz) wa be pr dki dag dco dpa dme dso drs dwa dbe dpr nt nm nb nc nd ns np tnt tnm tnb tnc tnd tns tnp pf ph pst kh kst os og oh cs mo le se pk pc lf ab cu cd) [.ref 7] (gEq (hC tl tn rn rp ki ag co pa me so (nI sz) wa be pr dki dag dco dpa dme dso drs dwa dbe dpr nt nm nb nc nd ns np tnt tnm tnb tnc tnd tns tnp pf ph pst kh kst os og oh cs mo le se pk pc lf ab cu cd) (some (.int (rX2_everyone sz)))) := by
  refine M.of (L0 := [.ref 7]) (by decide +kernel) (Nat.le_of_ble_eq_true rfl) rfl ?_
  refine g_iconst 1 dX2_everyone_0 1 rfl (by decide) ?_
  refine g_aload_n dX2_everyone_1 rfl 2 rfl rfl ?_
  refine g_get (v := .int (nI sz)) dX2_everyone_2 5 rfl lX2_39 rfl rfl ?_
  refine g_ishl' dX2_everyone_5 6 rfl (nI (2 ^ sz)) (z_1shl (by omega)) ?_
  refine g_iconst 1 dX2_everyone_6 7 rfl (by decide) ?_
  refine g_isub' dX2_everyone_7 8 rfl (nI (2 ^ sz - 1)) (pk_sub (b := 1) Nat.one_le_two_pow) ?_
  refine g_ireturn dX2_everyone_8 rfl rfl (Nat.le_refl _) (Nat.le_refl _) ?_
  have e : (rX2_everyone sz) = (nI (2 ^ sz - 1)) := by rw [rX2_everyone]
  rw [e]
  exact ⟨rfl, rfl⟩
theorem MX2_everyone' {w : gW} {al : Bool} {tl rn ki ag co pa me dki dag dco dpa dme nt tnt os og cs mo le se ab : Int32 → Int32} {tn rp so wa be pr dso drs dwa dbe dpr nm nb nc nd ns np tnm tnb tnc tnd tns tnp ph kh oh pk pc lf cu cd : Int32} {pf : Nat → Option Nat} {pst kst : Nat → gS} {sz : Nat} (hs : sz ≤ 9)  : M w gT0 al mX2_everyone 0 0 (hC tl tn rn rp ki ag co pa me so (nI sz) wa be pr dki dag dco dpa dme dso drs dwa dbe dpr nt nm nb nc nd ns np tnt tnm tnb tnc tnd tns tnp pf ph pst kh kst os og oh cs mo le se pk pc lf ab cu cd) [.ref 7] (gEq (hC tl tn rn rp ki ag co pa me so (nI sz) wa be pr dki dag dco dpa dme dso drs dwa dbe dpr nt nm nb nc nd ns np tnt tnm tnb tnc tnd tns tnp pf ph pst kh kst os og oh cs mo le se pk pc lf ab cu cd) (some (.int (nI (2 ^ sz - 1))))) := by
  have q := MX2_everyone (w := w) (al := al) (tl := tl) (tn := tn) (rn := rn) (rp := rp) (ki := ki) (ag := ag) (co := co) (pa := pa) (me := me) (so := so) (wa := wa) (be := be) (pr := pr) (dki := dki) (dag := dag) (dco := dco) (dpa := dpa) (dme := dme) (dso := dso) (drs := drs) (dwa := dwa) (dbe := dbe) (dpr := dpr) (nt := nt) (nm := nm) (nb := nb) (nc := nc) (nd := nd) (ns := ns) (np := np) (tnt := tnt) (tnm := tnm) (tnb := tnb) (tnc := tnc) (tnd := tnd) (tns := tns) (tnp := tnp) (pf := pf) (ph := ph) (pst := pst) (kh := kh) (kst := kst) (os := os) (og := og) (oh := oh) (cs := cs) (mo := mo) (le := le) (se := se) (pk := pk) (pc := pc) (lf := lf) (ab := ab) (cu := cu) (cd := cd) hs
  rw [(show rX2_everyone sz = nI (2 ^ sz - 1) from rfl)] at q
  exact q
def rX6_remaining_29 (sz : Nat) (cr : Nat) (de : Nat) : Int32 := (nI (andN (andN (2 ^ sz - 1) cr) de))
set_option maxRecDepth 100000 in
set_option maxHeartbeats 4000000 in
theorem MX6_remaining_29 {w : gW} {al : Bool} {tl rn ki ag co pa me dki dag dco dpa dme nt tnt os og cs mo le se ab : Int32 → Int32} {tn rp wa be pr dso drs dwa dbe dpr nm ns np tnm tnb tnc tnd tns tnp ph kh oh pk pc lf cu cd : Int32} {pf : Nat → Option Nat} {pst kst : Nat → gS} {sz bo cr de sd : Nat} (hs : sz ≤ 9)  : M w gT0 al mX6_remaining 0 0 (hC tl tn rn rp ki ag co pa me (nI sd) (nI sz) wa be pr dki dag dco dpa dme dso drs dwa dbe dpr nt nm (nI bo) (nI cr) (nI de) ns np tnt tnm tnb tnc tnd tns tnp pf ph pst kh kst os og oh cs mo le se pk pc lf ab cu cd) [.ref 29] (gEq (hC tl tn rn rp ki ag co pa me (nI sd) (nI sz) wa be pr dki dag dco dpa dme dso drs dwa dbe dpr nt nm (nI bo) (nI cr) (nI de) ns np tnt tnm tnb tnc tnd tns tnp pf ph pst kh kst os og oh cs mo le se pk pc lf ab cu cd) (some (.int (rX6_remaining_29 sz cr de)))) := by
  refine M.of (L0 := [.ref 29]) (by decide +kernel) (Nat.le_of_ble_eq_true rfl) rfl ?_
  refine g_aload_n dX6_remaining_0 rfl 1 rfl rfl ?_
  refine g_get (v := .ref 7) dX6_remaining_1 4 rfl lX6_20 rfl rfl ?_
  refine g_cVv (as := []) (st := []) dX6_remaining_4 7 rfl kX6_54 ⟨Nat.le_of_ble_eq_true rfl, Nat.le_of_ble_eq_true rfl⟩ (MX2_everyone' (sz := sz) (by omega)) rfl rfl rfl rfl (Nat.le_of_ble_eq_true rfl) (Nat.le_refl _) (Nat.le_refl _) ?_
  refine g_aload_n dX6_remaining_7 rfl 8 rfl rfl ?_
  refine g_get (v := .int (nI cr)) dX6_remaining_8 11 rfl lX6_34 rfl rfl ?_
  refine g_iconst (-1) dX6_remaining_11 12 rfl (by decide) ?_
  refine g_ixor dX6_remaining_12 13 rfl ?_
  refine g_iand' dX6_remaining_13 14 rfl (nI (andN (2 ^ sz - 1) cr)) (z_andN _ _) ?_
  refine g_aload_n dX6_remaining_14 rfl 15 rfl rfl ?_
  refine g_get (v := .int (nI de)) dX6_remaining_15 18 rfl lX6_37 rfl rfl ?_
  refine g_iconst (-1) dX6_remaining_18 19 rfl (by decide) ?_
  refine g_ixor dX6_remaining_19 20 rfl ?_
  refine g_iand' dX6_remaining_20 21 rfl (nI (andN (andN (2 ^ sz - 1) cr) de)) (z_andN _ _) ?_
  refine g_ireturn dX6_remaining_21 rfl rfl (Nat.le_refl _) (Nat.le_refl _) ?_
  have e : (rX6_remaining_29 sz cr de) = (nI (andN (andN (2 ^ sz - 1) cr) de)) := by rw [rX6_remaining_29]
  rw [e]
  exact ⟨rfl, rfl⟩
set_option maxRecDepth 100000 in
set_option maxHeartbeats 4000000 in
theorem MX6_remaining_32 {w : gW} {al : Bool} {tl rn ki ag co pa me dki dag dco dpa dme nt tnt os og cs mo le se ab : Int32 → Int32} {tn rp wa be pr dso drs dwa dbe dpr nm nb nc nd ns np tnm tns tnp ph kh oh pk pc lf cu cd : Int32} {pf : Nat → Option Nat} {pst kst : Nat → gS} {sz bo cr de sd : Nat} (hs : sz ≤ 9)  : M w gT0 al mX6_remaining 0 0 (hC tl tn rn rp ki ag co pa me (nI sd) (nI sz) wa be pr dki dag dco dpa dme dso drs dwa dbe dpr nt nm nb nc nd ns np tnt tnm (nI bo) (nI cr) (nI de) tns tnp pf ph pst kh kst os og oh cs mo le se pk pc lf ab cu cd) [.ref 32] (gEq (hC tl tn rn rp ki ag co pa me (nI sd) (nI sz) wa be pr dki dag dco dpa dme dso drs dwa dbe dpr nt nm nb nc nd ns np tnt tnm (nI bo) (nI cr) (nI de) tns tnp pf ph pst kh kst os og oh cs mo le se pk pc lf ab cu cd) (some (.int (rX6_remaining_29 sz cr de)))) := by
  refine M.of (L0 := [.ref 32]) (by decide +kernel) (Nat.le_of_ble_eq_true rfl) rfl ?_
  refine g_aload_n dX6_remaining_0 rfl 1 rfl rfl ?_
  refine g_get (v := .ref 7) dX6_remaining_1 4 rfl lX6_20 rfl rfl ?_
  refine g_cVv (as := []) (st := []) dX6_remaining_4 7 rfl kX6_54 ⟨Nat.le_of_ble_eq_true rfl, Nat.le_of_ble_eq_true rfl⟩ (MX2_everyone' (sz := sz) (by omega)) rfl rfl rfl rfl (Nat.le_of_ble_eq_true rfl) (Nat.le_refl _) (Nat.le_refl _) ?_
  refine g_aload_n dX6_remaining_7 rfl 8 rfl rfl ?_
  refine g_get (v := .int (nI cr)) dX6_remaining_8 11 rfl lX6_34 rfl rfl ?_
  refine g_iconst (-1) dX6_remaining_11 12 rfl (by decide) ?_
  refine g_ixor dX6_remaining_12 13 rfl ?_
  refine g_iand' dX6_remaining_13 14 rfl (nI (andN (2 ^ sz - 1) cr)) (z_andN _ _) ?_
  refine g_aload_n dX6_remaining_14 rfl 15 rfl rfl ?_
  refine g_get (v := .int (nI de)) dX6_remaining_15 18 rfl lX6_37 rfl rfl ?_
  refine g_iconst (-1) dX6_remaining_18 19 rfl (by decide) ?_
  refine g_ixor dX6_remaining_19 20 rfl ?_
  refine g_iand' dX6_remaining_20 21 rfl (nI (andN (andN (2 ^ sz - 1) cr) de)) (z_andN _ _) ?_
  refine g_ireturn dX6_remaining_21 rfl rfl (Nat.le_refl _) (Nat.le_refl _) ?_
  have e : (rX6_remaining_29 sz cr de) = (nI (andN (andN (2 ^ sz - 1) cr) de)) := by rw [rX6_remaining_29]
  rw [e]
  exact ⟨rfl, rfl⟩
