/-! the class: AgesFerry, best -/
theorem cheap_lp {cs : Int32 → Int32} (n : Nat) (hn : n ≤ 512) : ∀ (d i : Nat) (a : Int32), i + d = n → (a = -4 ∨ ∃ m, m < 512 ∧ a = nI m) → (gLp (fX4_cheapest_16 cs) d i a = -4 ∨ ∃ m, m < 512 ∧ gLp (fX4_cheapest_16 cs) d i a = nI m) := by
  intro d
  induction d with
  | zero => intro i a _ h; exact h
  | succ d ih =>
    intro i a hi h
    refine ih (i + 1) (fX4_cheapest_16 cs i a) (by omega) ?_
    unfold fX4_cheapest_16
    repeat (split <;> try (first | exact h | exact Or.inr ⟨i, by omega, rfl⟩))
theorem cheap_ok {x : Int32} (h : x = -4 ∨ ∃ m, m < 512 ∧ x = nI m) : x = -4 ∨ (nI x.toNatClampNeg = x ∧ x.toNatClampNeg < 512) := by
  rcases h with h | ⟨m, hm, rfl⟩
  · exact Or.inl h
  · rw [nI_clamp (by omega)]
    exact Or.inr ⟨rfl, hm⟩
theorem cheap_ch {ki ag co me : Int32 → Int32} {wa be pr : Int32} {nt : Int32 → Int32} {nm : Int32} {cs : Int32 → Int32} {sz cr de sd : Nat} : (rX4_cheapest ki ag co me wa be pr nt nm cs sz cr de sd).1 = -4 ∨ (nI (rX4_cheapest ki ag co me wa be pr nt nm cs sz cr de sd).1.toNatClampNeg = (rX4_cheapest ki ag co me wa be pr nt nm cs sz cr de sd).1 ∧ (rX4_cheapest ki ag co me wa be pr nt nm cs sz cr de sd).1.toNatClampNeg < 512) := by
  have q := cheap_ok (cheap_lp (cs := rX4_costAll ki ag me wa be pr nt cs (presN co nm sz cr de) sz cr de sd) 512 (Nat.le_refl _) (512 - 1) 1 (-4) (by omega) (Or.inl rfl))
  unfold rX4_cheapest
  dsimp only
  exact q
set_option maxRecDepth 100000 in
set_option maxHeartbeats 4000000 in
theorem MX6_costOf_i {w : gW} {al : Bool} {tl rn ki ag co pa me dki dag dco dpa dme nt tnt os og cs mo le se ab : Int32 → Int32} {tn rp wa be pr dso drs dwa dbe dpr nm ns np tnm tnb tnc tnd tns tnp ph kh oh pk pc lf cu cd : Int32} {pf : Nat → Option Nat} {pst kst : Nat → gS} {sz bo cr de sd : Nat} (hs : sz ≤ 9) (hsd : sd < 512) {x : Int32} (hx : nI x.toNatClampNeg = x ∧ x.toNatClampNeg < 512) : M w gT0 al mX6_costOf 0 0 (hC tl tn rn rp ki ag co pa me (nI sd) (nI sz) wa be pr dki dag dco dpa dme dso drs dwa dbe dpr nt nm (nI bo) (nI cr) (nI de) ns np tnt tnm tnb tnc tnd tns tnp pf ph pst kh kst os og oh cs mo le se pk pc lf ab cu cd) [.ref 29, .int x] (gEq (hC tl tn rn rp ki ag co pa me (nI sd) (nI sz) wa be pr dki dag dco dpa dme dso drs dwa dbe dpr nt nm (nI bo) (nI cr) (nI de) ns np tnt tnm tnb tnc tnd tns tnp pf ph pst kh kst os og oh cs mo le se pk pc lf ab cu cd) (some (.int (rX6_costOf_29 ki ag me wa be pr nt x.toNatClampNeg sz cr de sd)))) := by
  have q := MX6_costOf_29 (w := w) (al := al) (tl := tl) (tn := tn) (rn := rn) (rp := rp) (ki := ki) (ag := ag) (co := co) (pa := pa) (me := me) (wa := wa) (be := be) (pr := pr) (dki := dki) (dag := dag) (dco := dco) (dpa := dpa) (dme := dme) (dso := dso) (drs := drs) (dwa := dwa) (dbe := dbe) (dpr := dpr) (nt := nt) (nm := nm) (ns := ns) (np := np) (tnt := tnt) (tnm := tnm) (tnb := tnb) (tnc := tnc) (tnd := tnd) (tns := tns) (tnp := tnp) (pf := pf) (ph := ph) (pst := pst) (kh := kh) (kst := kst) (os := os) (og := og) (oh := oh) (cs := cs) (mo := mo) (le := le) (se := se) (pk := pk) (pc := pc) (lf := lf) (ab := ab) (cu := cu) (cd := cd) (sz := sz) (bo := bo) (cr := cr) (de := de) (sd := sd) x.toNatClampNeg hs hsd hx.2
  rw [hx.1] at q
  exact q
def rX9_best (ki : Int32 → Int32) (ag : Int32 → Int32) (co : Int32 → Int32) (me : Int32 → Int32) (wa : Int32) (be : Int32) (pr : Int32) (nt : Int32 → Int32) (nm : Int32) (cs : Int32 → Int32) (what : Int32) (sz : Nat) (cr : Nat) (de : Nat) (sd : Nat) : Int32 × (Int32 → Int32) := (if what < 0 then ((-1), cs) else (if what ≤ 1 then (if what = 0 then (((rX4_cheapest ki ag co me wa be pr nt nm cs sz cr de sd).1), ((rX4_cheapest ki ag co me wa be pr nt nm cs sz cr de sd).2)) else (if ((rX4_cheapest ki ag co me wa be pr nt nm cs sz cr de sd).1) = (-4) then (((rX4_cheapest ki ag co me wa be pr nt nm cs sz cr de sd).1), ((rX4_cheapest ki ag co me wa be pr nt nm cs sz cr de sd).2)) else ((rX6_costOf_29 ki ag me wa be pr nt ((rX4_cheapest ki ag co me wa be pr nt nm cs sz cr de sd).1).toNatClampNeg sz cr de sd), ((rX4_cheapest ki ag co me wa be pr nt nm cs sz cr de sd).2)))) else ((-1), cs)))
set_option maxRecDepth 100000 in
set_option maxHeartbeats 4000000 in
theorem MX9_best {w : gW} {al : Bool} {tl rn ki ag co pa me dki dag dco dpa dme nt tnt os og cs mo le se ab : Int32 → Int32} {tn rp wa be pr dso drs dwa dbe dpr nm ns np tnm tnb tnc tnd tns tnp ph kh oh pk pc lf cu cd : Int32} {pf : Nat → Option Nat} {pst kst : Nat → gS} {sz bo cr de sd : Nat} (what : Int32) (hs : sz ≤ 9) (hbo : bo < 512) (hcr : cr < 512) (hde : de < 512) (hsd : sd < 512)  : M w gT0 al mX9_best 0 0 (hC tl tn rn rp ki ag co pa me (nI sd) (nI sz) wa be pr dki dag dco dpa dme dso drs dwa dbe dpr nt nm (nI bo) (nI cr) (nI de) ns np tnt tnm tnb tnc tnd tns tnp pf ph pst kh kst os og oh cs mo le se pk pc lf ab cu cd) [.ref 0, .int what] (gEq (hC tl tn rn rp ki ag co pa me (nI sd) (nI sz) wa be pr dki dag dco dpa dme dso drs dwa dbe dpr nt nm (nI bo) (nI cr) (nI de) ns np tnt tnm tnb tnc tnd tns tnp pf ph pst kh kst os og oh ((rX9_best ki ag co me wa be pr nt nm cs what sz cr de sd).2) mo le se pk pc lf ab cu cd) (some (.int ((rX9_best ki ag co me wa be pr nt nm cs what sz cr de sd).1)))) := by
  refine M.of (L0 := [.ref 0, .int what, gF]) (by decide +kernel) (Nat.le_of_ble_eq_true rfl) rfl ?_
  refine g_iload_n dX9_best_0 rfl 1 rfl rfl ?_
  refine g_if_lt dX9_best_1 9 rfl 4 rfl (fun c1 => ?_) (fun c1 => ?_)
  · refine g_iconst (-1) dX9_best_9 10 rfl (by decide) ?_
    refine g_ireturn dX9_best_10 rfl rfl (Nat.le_refl _) (Nat.le_refl _) ?_
    have e : (rX9_best ki ag co me wa be pr nt nm cs what sz cr de sd) = ((-1), cs) := by rw [rX9_best, if_pos c1]
    rw [e]
    try dsimp only
    exact ⟨rfl, rfl⟩
  · refine g_iload_n dX9_best_4 rfl 5 rfl rfl ?_
    refine g_iconst 1 dX9_best_5 6 rfl (by decide) ?_
    refine g_icmp_le dX9_best_6 11 rfl 9 rfl (fun c2 => ?_) (fun c2 => ?_)
    · refine g_aload_n dX9_best_11 rfl 12 rfl rfl ?_
      refine g_get (v := .ref 74) dX9_best_12 15 rfl lX9_71 rfl rfl ?_
      refine g_cVv (as := []) (st := []) dX9_best_15 18 rfl kX9_188 ⟨Nat.le_of_ble_eq_true rfl, Nat.le_of_ble_eq_true rfl⟩ (MX4_cheapest (sz := sz) (bo := bo) (cr := cr) (de := de) (sd := sd) (by omega) (by omega)) rfl rfl rfl rfl (Nat.le_of_ble_eq_true rfl) (Nat.le_refl _) (Nat.le_refl _) ?_
      refine g_istore2 dX9_best_18 19 rfl (by decide) rfl ?_
      refine g_iload_n dX9_best_19 rfl 20 rfl rfl ?_
      refine g_if_eq dX9_best_20 29 rfl 23 rfl (fun c3 => ?_) (fun c3 => ?_)
      · refine g_iload_n dX9_best_29 rfl 30 rfl rfl ?_
        refine g_goto dX9_best_30 41 rfl ?_
        refine g_ireturn dX9_best_41 rfl rfl (Nat.le_refl _) (Nat.le_refl _) ?_
        have e : (rX9_best ki ag co me wa be pr nt nm cs what sz cr de sd) = (((rX4_cheapest ki ag co me wa be pr nt nm cs sz cr de sd).1), ((rX4_cheapest ki ag co me wa be pr nt nm cs sz cr de sd).2)) := by rw [rX9_best, if_neg c1, if_pos c2, if_pos c3]
        rw [e]
        try dsimp only
        exact ⟨rfl, rfl⟩
      · refine g_iload_n dX9_best_23 rfl 24 rfl rfl ?_
        refine g_bipush (-4) dX9_best_24 26 rfl (by decide) ?_
        refine g_icmp_ne dX9_best_26 33 rfl 29 rfl (fun c4 => ?_) (fun c4 => ?_)
        · refine g_aload_n dX9_best_33 rfl 34 rfl rfl ?_
          refine g_get (v := .ref 29) dX9_best_34 37 rfl lX9_40 rfl rfl ?_
          refine g_iload_n dX9_best_37 rfl 38 rfl rfl ?_
          refine g_cVv (as := [.int ((rX4_cheapest ki ag co me wa be pr nt nm cs sz cr de sd).1)]) (st := []) dX9_best_38 41 rfl kX9_155 ⟨Nat.le_of_ble_eq_true rfl, Nat.le_of_ble_eq_true rfl⟩ (MX6_costOf_i hs hsd (cheap_ch.resolve_left c4)) rfl rfl rfl rfl (Nat.le_of_ble_eq_true rfl) (Nat.le_refl _) (Nat.le_refl _) ?_
          refine g_ireturn dX9_best_41 rfl rfl (Nat.le_refl _) (Nat.le_refl _) ?_
          have e : (rX9_best ki ag co me wa be pr nt nm cs what sz cr de sd) = ((rX6_costOf_29 ki ag me wa be pr nt ((rX4_cheapest ki ag co me wa be pr nt nm cs sz cr de sd).1).toNatClampNeg sz cr de sd), ((rX4_cheapest ki ag co me wa be pr nt nm cs sz cr de sd).2)) := by rw [rX9_best, if_neg c1, if_pos c2, if_neg c3, if_neg c4]
          rw [e]
          try dsimp only
          exact ⟨rfl, rfl⟩
        · refine g_iload_n dX9_best_29 rfl 30 rfl rfl ?_
          refine g_goto dX9_best_30 41 rfl ?_
          refine g_ireturn dX9_best_41 rfl rfl (Nat.le_refl _) (Nat.le_refl _) ?_
          have e : (rX9_best ki ag co me wa be pr nt nm cs what sz cr de sd) = (((rX4_cheapest ki ag co me wa be pr nt nm cs sz cr de sd).1), ((rX4_cheapest ki ag co me wa be pr nt nm cs sz cr de sd).2)) := by rw [rX9_best, if_neg c1, if_pos c2, if_neg c3, if_pos c4]
          rw [e]
          try dsimp only
          exact ⟨rfl, rfl⟩
    · refine g_iconst (-1) dX9_best_9 10 rfl (by decide) ?_
      refine g_ireturn dX9_best_10 rfl rfl (Nat.le_refl _) (Nat.le_refl _) ?_
      have e : (rX9_best ki ag co me wa be pr nt nm cs what sz cr de sd) = ((-1), cs) := by rw [rX9_best, if_neg c1, if_neg c2]
      rw [e]
      try dsimp only
      exact ⟨rfl, rfl⟩
