/-! the class: AgesFerry, day -/
theorem MX9_draw' {w : gW} {al : Bool} {h : gH} (z k : Nat) (hz : z ≤ 9999) (hk : k ≤ 60) : M w gT0 al mX9_draw 0 0 h [.int (nI z), .int (nI k)] (gEq h (some (.int (nI (drw z k))))) := by
  have q := MX9_draw (w := w) (al := al) (h := h) (nI z) (nI k)
  rw [show rX9_draw (nI z) (nI k) = nI (drw z k) from drw_eq hz hk] at q
  exact q
/-- the trial: trips, minute, aboard, across, sailings, coins -/
abbrev gTr : Type := (Int32 → Int32) × Int32 × Nat × Nat × Int32 × Int32
theorem lm_lt {ki ag co me : Int32 → Int32} {wa be pr : Int32} {tnt : Int32 → Int32} {tnm tns tnp : Int32} {dr sz bo cr de sd : Nat} (hs : sz ≤ 9) (hbo : bo < 512) (hcr : cr < 512) (hm : dr % sz < 9) : (rX6_liveMinute ki ag co me wa be pr tnt tnm tns tnp dr sz bo cr de sd).2.2.1 < 512 ∧ (rX6_liveMinute ki ag co me wa be pr tnt tnm tns tnp dr sz bo cr de sd).2.2.2.1 < 512 := by
  have h1 : ∀ ml, rX6_move_29 co tnm (dr % sz) ml bo cr de < 512 := fun ml => move_lt hbo hm
  have h2 : ∀ (b : Nat) (d i : Nat) (a : (Int32 → Int32) × Nat), i + d = sz → a.2 < 512 → (gLp (fX6_depart_2_29 ki b) d i a).2 < 512 := by
    intro b d
    induction d with
    | zero => intro i a _ h; exact h
    | succ d ih =>
      intro i a hi h
      refine ih (i + 1) _ (by omega) ?_
      obtain ⟨f, c⟩ := a
      have h3 : c ||| 2 ^ i < 2 ^ 9 := Nat.or_lt_two_pow h (Nat.pow_lt_pow_right (by decide) (by omega))
      have h4 : c ||| 0 < 512 := by rw [Nat.or_zero]; exact h
      unfold fX6_depart_2_29
      dsimp only
      repeat (split <;> try (first | exact h3 | exact h4 | exact h))
  unfold rX6_liveMinute
  repeat (split <;> try (first | exact ⟨h1 _, hcr⟩ | exact ⟨Nat.zero_lt_succ 511, h2 _ sz 0 (tnt, cr) (by omega) hcr⟩))
def fX9_day_47 (ki : Int32 → Int32) (ag : Int32 → Int32) (co : Int32 → Int32) (me : Int32 → Int32) (wa : Int32) (be : Int32) (pr : Int32) (z : Nat) (sz : Nat) (de : Nat) (sd : Nat) : Nat → ((Int32 → Int32) × Int32 × Nat × Nat × Int32 × Int32) → ((Int32 → Int32) × Int32 × Nat × Nat × Int32 × Int32)
  | i, (u0, u1, u2, u3, u4, u5) => (((rX6_liveMinute ki ag co me wa be pr u0 u1 u4 u5 (drw z i) sz u2 u3 de sd).1), ((rX6_liveMinute ki ag co me wa be pr u0 u1 u4 u5 (drw z i) sz u2 u3 de sd).2.1), ((rX6_liveMinute ki ag co me wa be pr u0 u1 u4 u5 (drw z i) sz u2 u3 de sd).2.2.1), ((rX6_liveMinute ki ag co me wa be pr u0 u1 u4 u5 (drw z i) sz u2 u3 de sd).2.2.2.1), ((rX6_liveMinute ki ag co me wa be pr u0 u1 u4 u5 (drw z i) sz u2 u3 de sd).2.2.2.2.1), ((rX6_liveMinute ki ag co me wa be pr u0 u1 u4 u5 (drw z i) sz u2 u3 de sd).2.2.2.2.2))
set_option maxRecDepth 100000 in
set_option maxHeartbeats 4000000 in
theorem LX9_day_47 {w : gW} {al : Bool} {tl rn ki ag co pa me dki dag dco dpa dme nt os og cs mo le se ab : Int32 → Int32} {tn rp wa be pr dso drs dwa dbe dpr nm ns np ph kh oh pk pc lf cu cd : Int32} {pf : Nat → Option Nat} {pst kst : Nat → gS} {n : Nat} {P : gP} {sz bo cr de sd : Nat} {z : Nat} {m : Nat} {what : Int32} (hs : sz ≤ 9) (hbo : bo < 512) (hcr : cr < 512) (hde : de < 512) (hsd : sd < 512) (hs1 : 1 ≤ sz) (hz : z ≤ 9999) (hm60 : m ≤ 60)  : ∀ (d i : Nat) (u0 : Int32 → Int32) (u1 : Int32) (u2 : Nat) (u3 : Nat) (u4 : Int32) (u5 : Int32), i + d = m → (u2 < 512 ∧ u3 < 512) → G w gT0 al n mX9_day 0 0 P 0 0 (hC tl tn rn rp ki ag co pa me (nI sd) (nI sz) wa be pr dki dag dco dpa dme dso drs dwa dbe dpr nt nm (nI bo) (nI cr) (nI de) ns np ((gLp (fX9_day_47 ki ag co me wa be pr z sz de sd) d i (u0, u1, u2, u3, u4, u5)).1) ((gLp (fX9_day_47 ki ag co me wa be pr z sz de sd) d i (u0, u1, u2, u3, u4, u5)).2.1) (nI ((gLp (fX9_day_47 ki ag co me wa be pr z sz de sd) d i (u0, u1, u2, u3, u4, u5)).2.2.1)) (nI ((gLp (fX9_day_47 ki ag co me wa be pr z sz de sd) d i (u0, u1, u2, u3, u4, u5)).2.2.2.1)) (nI de) ((gLp (fX9_day_47 ki ag co me wa be pr z sz de sd) d i (u0, u1, u2, u3, u4, u5)).2.2.2.2.1) ((gLp (fX9_day_47 ki ag co me wa be pr z sz de sd) d i (u0, u1, u2, u3, u4, u5)).2.2.2.2.2) pf ph pst kh kst os og oh cs mo le se pk pc lf ab cu cd) 72 [.ref 0, .int (nI z), .int (nI m), .int what, .int (nI m)] [] → G w gT0 al n mX9_day 0 0 P 0 0 (hC tl tn rn rp ki ag co pa me (nI sd) (nI sz) wa be pr dki dag dco dpa dme dso drs dwa dbe dpr nt nm (nI bo) (nI cr) (nI de) ns np u0 u1 (nI u2) (nI u3) (nI de) u4 u5 pf ph pst kh kst os og oh cs mo le se pk pc lf ab cu cd) 47 [.ref 0, .int (nI z), .int (nI m), .int what, .int (nI i)] [] := by
  intro d
  induction d with
  | zero =>
    intro i u0 u1 u2 u3 u4 u5 hi hinv k
    have hN : i = m := by omega
    rw [hN]
    rw [hN] at k
    refine g_iload dX9_day_47 49 rfl rfl ?_
    refine g_iload_n dX9_day_49 rfl 50 rfl rfl ?_
    refine g_icmp_ge dX9_day_50 72 rfl 53 rfl (fun _ => ?_) (fun c => absurd (nI_le (Nat.le_refl _) (by omega)) c)
    exact k
  | succ d ih =>
    intro i u0 u1 u2 u3 u4 u5 hi hinv k
    refine g_iload dX9_day_47 49 rfl rfl ?_
    refine g_iload_n dX9_day_49 rfl 50 rfl rfl ?_
    refine g_icmp_ge dX9_day_50 72 rfl 53 rfl (fun c => absurd c (nI_ge (by omega) (by omega))) (fun _ => ?_)
    refine g_aload_n dX9_day_53 rfl 54 rfl rfl ?_
    refine g_get (v := .ref 32) dX9_day_54 57 rfl lX9_44 rfl rfl ?_
    refine g_iload_n dX9_day_57 rfl 58 rfl rfl ?_
    refine g_iload dX9_day_58 60 rfl rfl ?_
    refine g_cSv (as := [.int (nI z), .int (nI i)]) (st := [.ref 32]) dX9_day_60 63 rfl kX9_256 ⟨Nat.le_of_ble_eq_true rfl, Nat.le_of_ble_eq_true rfl⟩ (MX9_draw' z i (by omega) (by omega)) rfl (Nat.le_of_ble_eq_true rfl) (Nat.le_refl _) (Nat.le_refl _) ?_
    refine g_cV0 (as := [.int (nI (drw z i))]) (st := []) dX9_day_63 66 rfl kX9_259 ⟨Nat.le_of_ble_eq_true rfl, Nat.le_of_ble_eq_true rfl⟩ (MX6_liveMinute (sz := sz) (bo := u2) (cr := u3) (de := de) (sd := sd) (drw z i) (by omega) (by omega) (by omega) (by omega) (by omega) (by omega) (drw_lt _ _) (Nat.lt_of_lt_of_le (Nat.mod_lt _ (by omega)) (by omega))) rfl rfl rfl rfl (Nat.le_of_ble_eq_true rfl) (Nat.le_refl _) (Nat.le_refl _) ?_
    refine g_iinc4 dX9_day_66 69 rfl 1 (by decide) (nI (i + 1)) (nI_add _ 1) (by decide) rfl ?_
    refine g_goto dX9_day_69 47 rfl ?_
    have e : (fX9_day_47 ki ag co me wa be pr z sz de sd) i (u0, u1, u2, u3, u4, u5) = (((rX6_liveMinute ki ag co me wa be pr u0 u1 u4 u5 (drw z i) sz u2 u3 de sd).1), ((rX6_liveMinute ki ag co me wa be pr u0 u1 u4 u5 (drw z i) sz u2 u3 de sd).2.1), ((rX6_liveMinute ki ag co me wa be pr u0 u1 u4 u5 (drw z i) sz u2 u3 de sd).2.2.1), ((rX6_liveMinute ki ag co me wa be pr u0 u1 u4 u5 (drw z i) sz u2 u3 de sd).2.2.2.1), ((rX6_liveMinute ki ag co me wa be pr u0 u1 u4 u5 (drw z i) sz u2 u3 de sd).2.2.2.2.1), ((rX6_liveMinute ki ag co me wa be pr u0 u1 u4 u5 (drw z i) sz u2 u3 de sd).2.2.2.2.2)) := by rw [fX9_day_47]
    refine ih (i + 1) ((rX6_liveMinute ki ag co me wa be pr u0 u1 u4 u5 (drw z i) sz u2 u3 de sd).1) ((rX6_liveMinute ki ag co me wa be pr u0 u1 u4 u5 (drw z i) sz u2 u3 de sd).2.1) ((rX6_liveMinute ki ag co me wa be pr u0 u1 u4 u5 (drw z i) sz u2 u3 de sd).2.2.1) ((rX6_liveMinute ki ag co me wa be pr u0 u1 u4 u5 (drw z i) sz u2 u3 de sd).2.2.2.1) ((rX6_liveMinute ki ag co me wa be pr u0 u1 u4 u5 (drw z i) sz u2 u3 de sd).2.2.2.2.1) ((rX6_liveMinute ki ag co me wa be pr u0 u1 u4 u5 (drw z i) sz u2 u3 de sd).2.2.2.2.2) (by omega) (lm_lt hs hinv.1 hinv.2 (Nat.lt_of_lt_of_le (Nat.mod_lt _ (by omega)) (by omega))) ?_
    rw [← e]
    exact k
def rX9_day (ki : Int32 → Int32) (ag : Int32 → Int32) (co : Int32 → Int32) (me : Int32 → Int32) (wa : Int32) (be : Int32) (pr : Int32) (nt : Int32 → Int32) (nm : Int32) (ns : Int32) (np : Int32) (tnt : Int32 → Int32) (tnm : Int32) (tnb : Int32) (tnc : Int32) (tnd : Int32) (tns : Int32) (tnp : Int32) (z : Nat) (m : Nat) (what : Int32) (sz : Nat) (bo : Nat) (cr : Nat) (de : Nat) (sd : Nat) : Int32 × (Int32 → Int32) × Int32 × Int32 × Int32 × Int32 × Int32 × Int32 := (if (nI m) < 1 then ((-1), tnt, tnm, tnb, tnc, tnd, tns, tnp) else (if what < 0 then ((-1), tnt, tnm, tnb, tnc, tnd, tns, tnp) else (if what ≤ 1 then (if what = 0 then ((((gLp (fX9_day_47 ki ag co me wa be pr z sz de sd) m 0 ((cpN nt 9 0 tnt), nm, bo, cr, ns, np)).2.2.2.2.1) - ns), ((gLp (fX9_day_47 ki ag co me wa be pr z sz de sd) m 0 ((cpN nt 9 0 tnt), nm, bo, cr, ns, np)).1), ((gLp (fX9_day_47 ki ag co me wa be pr z sz de sd) m 0 ((cpN nt 9 0 tnt), nm, bo, cr, ns, np)).2.1), (nI ((gLp (fX9_day_47 ki ag co me wa be pr z sz de sd) m 0 ((cpN nt 9 0 tnt), nm, bo, cr, ns, np)).2.2.1)), (nI ((gLp (fX9_day_47 ki ag co me wa be pr z sz de sd) m 0 ((cpN nt 9 0 tnt), nm, bo, cr, ns, np)).2.2.2.1)), (nI de), ((gLp (fX9_day_47 ki ag co me wa be pr z sz de sd) m 0 ((cpN nt 9 0 tnt), nm, bo, cr, ns, np)).2.2.2.2.1), ((gLp (fX9_day_47 ki ag co me wa be pr z sz de sd) m 0 ((cpN nt 9 0 tnt), nm, bo, cr, ns, np)).2.2.2.2.2)) else ((((gLp (fX9_day_47 ki ag co me wa be pr z sz de sd) m 0 ((cpN nt 9 0 tnt), nm, bo, cr, ns, np)).2.2.2.2.2) - np), ((gLp (fX9_day_47 ki ag co me wa be pr z sz de sd) m 0 ((cpN nt 9 0 tnt), nm, bo, cr, ns, np)).1), ((gLp (fX9_day_47 ki ag co me wa be pr z sz de sd) m 0 ((cpN nt 9 0 tnt), nm, bo, cr, ns, np)).2.1), (nI ((gLp (fX9_day_47 ki ag co me wa be pr z sz de sd) m 0 ((cpN nt 9 0 tnt), nm, bo, cr, ns, np)).2.2.1)), (nI ((gLp (fX9_day_47 ki ag co me wa be pr z sz de sd) m 0 ((cpN nt 9 0 tnt), nm, bo, cr, ns, np)).2.2.2.1)), (nI de), ((gLp (fX9_day_47 ki ag co me wa be pr z sz de sd) m 0 ((cpN nt 9 0 tnt), nm, bo, cr, ns, np)).2.2.2.2.1), ((gLp (fX9_day_47 ki ag co me wa be pr z sz de sd) m 0 ((cpN nt 9 0 tnt), nm, bo, cr, ns, np)).2.2.2.2.2))) else ((-1), tnt, tnm, tnb, tnc, tnd, tns, tnp))))
set_option maxRecDepth 100000 in
set_option maxHeartbeats 4000000 in
theorem MX9_day {w : gW} {al : Bool} {tl rn ki ag co pa me dki dag dco dpa dme nt tnt os og cs mo le se ab : Int32 → Int32} {tn rp wa be pr dso drs dwa dbe dpr nm ns np tnm tnb tnc tnd tns tnp ph kh oh pk pc lf cu cd : Int32} {pf : Nat → Option Nat} {pst kst : Nat → gS} {sz bo cr de sd : Nat} (z : Nat) (m : Nat) (what : Int32) (hs : sz ≤ 9) (hbo : bo < 512) (hcr : cr < 512) (hde : de < 512) (hsd : sd < 512) (hs1 : 1 ≤ sz) (hz : z ≤ 9999) (hm60 : m ≤ 60)  : M w gT0 al mX9_day 0 0 (hC tl tn rn rp ki ag co pa me (nI sd) (nI sz) wa be pr dki dag dco dpa dme dso drs dwa dbe dpr nt nm (nI bo) (nI cr) (nI de) ns np tnt tnm tnb tnc tnd tns tnp pf ph pst kh kst os og oh cs mo le se pk pc lf ab cu cd) [.ref 0, .int (nI z), .int (nI m), .int what] (gEq (hC tl tn rn rp ki ag co pa me (nI sd) (nI sz) wa be pr dki dag dco dpa dme dso drs dwa dbe dpr nt nm (nI bo) (nI cr) (nI de) ns np ((rX9_day ki ag co me wa be pr nt nm ns np tnt tnm tnb tnc tnd tns tnp z m what sz bo cr de sd).2.1) ((rX9_day ki ag co me wa be pr nt nm ns np tnt tnm tnb tnc tnd tns tnp z m what sz bo cr de sd).2.2.1) ((rX9_day ki ag co me wa be pr nt nm ns np tnt tnm tnb tnc tnd tns tnp z m what sz bo cr de sd).2.2.2.1) ((rX9_day ki ag co me wa be pr nt nm ns np tnt tnm tnb tnc tnd tns tnp z m what sz bo cr de sd).2.2.2.2.1) ((rX9_day ki ag co me wa be pr nt nm ns np tnt tnm tnb tnc tnd tns tnp z m what sz bo cr de sd).2.2.2.2.2.1) ((rX9_day ki ag co me wa be pr nt nm ns np tnt tnm tnb tnc tnd tns tnp z m what sz bo cr de sd).2.2.2.2.2.2.1) ((rX9_day ki ag co me wa be pr nt nm ns np tnt tnm tnb tnc tnd tns tnp z m what sz bo cr de sd).2.2.2.2.2.2.2) pf ph pst kh kst os og oh cs mo le se pk pc lf ab cu cd) (some (.int ((rX9_day ki ag co me wa be pr nt nm ns np tnt tnm tnb tnc tnd tns tnp z m what sz bo cr de sd).1)))) := by
  refine M.of (L0 := [.ref 0, .int (nI z), .int (nI m), .int what, gF]) (by decide +kernel) (Nat.le_of_ble_eq_true rfl) rfl ?_
  refine g_iload_n dX9_day_0 rfl 1 rfl rfl ?_
  refine g_if_lt dX9_day_1 31 rfl 4 rfl (fun c => absurd c (nI_pos (by omega))) (fun _ => ?_)
  refine g_iload_n dX9_day_4 rfl 5 rfl rfl ?_
  refine g_sipush 9999 dX9_day_5 8 rfl (by decide) ?_
  refine g_icmp_gt dX9_day_8 31 rfl 11 rfl (fun c => absurd c (nI_nlt (a := 9999) (by omega) (by omega))) (fun _ => ?_)
  refine g_iload_n dX9_day_11 rfl 12 rfl rfl ?_
  refine g_iconst 1 dX9_day_12 13 rfl (by decide) ?_
  refine g_icmp_lt dX9_day_13 31 rfl 16 rfl (fun c1 => ?_) (fun c1 => ?_)
  · refine g_iconst (-1) dX9_day_31 32 rfl (by decide) ?_
    refine g_ireturn dX9_day_32 rfl rfl (Nat.le_refl _) (Nat.le_refl _) ?_
    have e : (rX9_day ki ag co me wa be pr nt nm ns np tnt tnm tnb tnc tnd tns tnp z m what sz bo cr de sd) = ((-1), tnt, tnm, tnb, tnc, tnd, tns, tnp) := by rw [rX9_day, if_pos c1]
    rw [e]
    try dsimp only
    exact ⟨rfl, rfl⟩
  · refine g_iload_n dX9_day_16 rfl 17 rfl rfl ?_
    refine g_bipush 60 dX9_day_17 19 rfl (by decide) ?_
    refine g_icmp_gt dX9_day_19 31 rfl 22 rfl (fun c => absurd c (nI_nlt (a := 60) (by omega) (by omega))) (fun _ => ?_)
    refine g_iload_n dX9_day_22 rfl 23 rfl rfl ?_
    refine g_if_lt dX9_day_23 31 rfl 26 rfl (fun c2 => ?_) (fun c2 => ?_)
    · refine g_iconst (-1) dX9_day_31 32 rfl (by decide) ?_
      refine g_ireturn dX9_day_32 rfl rfl (Nat.le_refl _) (Nat.le_refl _) ?_
      have e : (rX9_day ki ag co me wa be pr nt nm ns np tnt tnm tnb tnc tnd tns tnp z m what sz bo cr de sd) = ((-1), tnt, tnm, tnb, tnc, tnd, tns, tnp) := by rw [rX9_day, if_neg c1, if_pos c2]
      rw [e]
      try dsimp only
      exact ⟨rfl, rfl⟩
    · refine g_iload_n dX9_day_26 rfl 27 rfl rfl ?_
      refine g_iconst 1 dX9_day_27 28 rfl (by decide) ?_
      refine g_icmp_le dX9_day_28 33 rfl 31 rfl (fun c3 => ?_) (fun c3 => ?_)
      · refine g_aload_n dX9_day_33 rfl 34 rfl rfl ?_
        refine g_get (v := .ref 32) dX9_day_34 37 rfl lX9_44 rfl rfl ?_
        refine g_aload_n dX9_day_37 rfl 38 rfl rfl ?_
        refine g_get (v := .ref 29) dX9_day_38 41 rfl lX9_40 rfl rfl ?_
        refine g_cV0 (as := [.ref 29]) (st := []) dX9_day_41 44 rfl kX9_253 ⟨Nat.le_of_ble_eq_true rfl, Nat.le_of_ble_eq_true rfl⟩ MX6_copyFrom_32 rfl rfl rfl rfl (Nat.le_of_ble_eq_true rfl) (Nat.le_refl _) (Nat.le_refl _) ?_
        refine g_iconst 0 dX9_day_44 45 rfl (by decide) ?_
        refine g_istore4 dX9_day_45 47 rfl (by decide) rfl ?_
        refine LX9_day_47 (z := z) (m := m) (by omega) (by omega) (by omega) (by omega) (by omega) (by omega) (by omega) (by omega) m 0 (cpN nt 9 0 tnt) nm bo cr ns np (by omega) ⟨hbo, hcr⟩ ?_
        refine g_iload_n dX9_day_72 rfl 73 rfl rfl ?_
        refine g_if_ne dX9_day_73 94 rfl 76 rfl (fun c4 => ?_) (fun c4 => ?_)
        · refine g_aload_n dX9_day_94 rfl 95 rfl rfl ?_
          refine g_get (v := .ref 32) dX9_day_95 98 rfl lX9_44 rfl rfl ?_
          refine g_get (v := .int ((gLp (fX9_day_47 ki ag co me wa be pr z sz de sd) m 0 ((cpN nt 9 0 tnt), nm, bo, cr, ns, np)).2.2.2.2.2)) dX9_day_98 101 rfl lX9_265 rfl rfl ?_
          refine g_aload_n dX9_day_101 rfl 102 rfl rfl ?_
          refine g_get (v := .ref 29) dX9_day_102 105 rfl lX9_40 rfl rfl ?_
          refine g_get (v := .int np) dX9_day_105 108 rfl lX9_265 rfl rfl ?_
          refine g_isub dX9_day_108 109 rfl ?_
          refine g_ireturn dX9_day_109 rfl rfl (Nat.le_refl _) (Nat.le_refl _) ?_
          have e : (rX9_day ki ag co me wa be pr nt nm ns np tnt tnm tnb tnc tnd tns tnp z m what sz bo cr de sd) = ((((gLp (fX9_day_47 ki ag co me wa be pr z sz de sd) m 0 ((cpN nt 9 0 tnt), nm, bo, cr, ns, np)).2.2.2.2.2) - np), ((gLp (fX9_day_47 ki ag co me wa be pr z sz de sd) m 0 ((cpN nt 9 0 tnt), nm, bo, cr, ns, np)).1), ((gLp (fX9_day_47 ki ag co me wa be pr z sz de sd) m 0 ((cpN nt 9 0 tnt), nm, bo, cr, ns, np)).2.1), (nI ((gLp (fX9_day_47 ki ag co me wa be pr z sz de sd) m 0 ((cpN nt 9 0 tnt), nm, bo, cr, ns, np)).2.2.1)), (nI ((gLp (fX9_day_47 ki ag co me wa be pr z sz de sd) m 0 ((cpN nt 9 0 tnt), nm, bo, cr, ns, np)).2.2.2.1)), (nI de), ((gLp (fX9_day_47 ki ag co me wa be pr z sz de sd) m 0 ((cpN nt 9 0 tnt), nm, bo, cr, ns, np)).2.2.2.2.1), ((gLp (fX9_day_47 ki ag co me wa be pr z sz de sd) m 0 ((cpN nt 9 0 tnt), nm, bo, cr, ns, np)).2.2.2.2.2)) := by rw [rX9_day, if_neg c1, if_neg c2, if_pos c3, if_neg c4]
          rw [e]
          try dsimp only
          exact ⟨rfl, rfl⟩
        · refine g_aload_n dX9_day_76 rfl 77 rfl rfl ?_
          refine g_get (v := .ref 32) dX9_day_77 80 rfl lX9_44 rfl rfl ?_
          refine g_get (v := .int ((gLp (fX9_day_47 ki ag co me wa be pr z sz de sd) m 0 ((cpN nt 9 0 tnt), nm, bo, cr, ns, np)).2.2.2.2.1)) dX9_day_80 83 rfl lX9_262 rfl rfl ?_
          refine g_aload_n dX9_day_83 rfl 84 rfl rfl ?_
          refine g_get (v := .ref 29) dX9_day_84 87 rfl lX9_40 rfl rfl ?_
          refine g_get (v := .int ns) dX9_day_87 90 rfl lX9_262 rfl rfl ?_
          refine g_isub dX9_day_90 91 rfl ?_
          refine g_goto dX9_day_91 109 rfl ?_
          refine g_ireturn dX9_day_109 rfl rfl (Nat.le_refl _) (Nat.le_refl _) ?_
          have e : (rX9_day ki ag co me wa be pr nt nm ns np tnt tnm tnb tnc tnd tns tnp z m what sz bo cr de sd) = ((((gLp (fX9_day_47 ki ag co me wa be pr z sz de sd) m 0 ((cpN nt 9 0 tnt), nm, bo, cr, ns, np)).2.2.2.2.1) - ns), ((gLp (fX9_day_47 ki ag co me wa be pr z sz de sd) m 0 ((cpN nt 9 0 tnt), nm, bo, cr, ns, np)).1), ((gLp (fX9_day_47 ki ag co me wa be pr z sz de sd) m 0 ((cpN nt 9 0 tnt), nm, bo, cr, ns, np)).2.1), (nI ((gLp (fX9_day_47 ki ag co me wa be pr z sz de sd) m 0 ((cpN nt 9 0 tnt), nm, bo, cr, ns, np)).2.2.1)), (nI ((gLp (fX9_day_47 ki ag co me wa be pr z sz de sd) m 0 ((cpN nt 9 0 tnt), nm, bo, cr, ns, np)).2.2.2.1)), (nI de), ((gLp (fX9_day_47 ki ag co me wa be pr z sz de sd) m 0 ((cpN nt 9 0 tnt), nm, bo, cr, ns, np)).2.2.2.2.1), ((gLp (fX9_day_47 ki ag co me wa be pr z sz de sd) m 0 ((cpN nt 9 0 tnt), nm, bo, cr, ns, np)).2.2.2.2.2)) := by rw [rX9_day, if_neg c1, if_neg c2, if_pos c3, if_pos c4]
          rw [e]
          try dsimp only
          exact ⟨rfl, rfl⟩
      · refine g_iconst (-1) dX9_day_31 32 rfl (by decide) ?_
        refine g_ireturn dX9_day_32 rfl rfl (Nat.le_refl _) (Nat.le_refl _) ?_
        have e : (rX9_day ki ag co me wa be pr nt nm ns np tnt tnm tnb tnc tnd tns tnp z m what sz bo cr de sd) = ((-1), tnt, tnm, tnb, tnc, tnd, tns, tnp) := by rw [rX9_day, if_neg c1, if_neg c2, if_neg c3]
        rw [e]
        try dsimp only
        exact ⟨rfl, rfl⟩
def rX9_day_a  : Int32 := (-1)
set_option maxRecDepth 100000 in
set_option maxHeartbeats 4000000 in
theorem MX9_day_a {w : gW} {al : Bool} {tl rn ki ag co pa me dki dag dco dpa dme nt tnt os og cs mo le se ab : Int32 → Int32} {tn rp wa be pr dso drs dwa dbe dpr nm ns np tnm tnb tnc tnd tns tnp ph kh oh pk pc lf cu cd : Int32} {pf : Nat → Option Nat} {pst kst : Nat → gS} {sz bo cr de sd : Nat} (z : Int32) (m : Int32) (what : Int32) (hs : sz ≤ 9) (hbo : bo < 512) (hcr : cr < 512) (hde : de < 512) (hsd : sd < 512) (hx : z < 0)  : M w gT0 al mX9_day 0 0 (hC tl tn rn rp ki ag co pa me (nI sd) (nI sz) wa be pr dki dag dco dpa dme dso drs dwa dbe dpr nt nm (nI bo) (nI cr) (nI de) ns np tnt tnm tnb tnc tnd tns tnp pf ph pst kh kst os og oh cs mo le se pk pc lf ab cu cd) [.ref 0, .int z, .int m, .int what] (gEq (hC tl tn rn rp ki ag co pa me (nI sd) (nI sz) wa be pr dki dag dco dpa dme dso drs dwa dbe dpr nt nm (nI bo) (nI cr) (nI de) ns np tnt tnm tnb tnc tnd tns tnp pf ph pst kh kst os og oh cs mo le se pk pc lf ab cu cd) (some (.int rX9_day_a))) := by
  refine M.of (L0 := [.ref 0, .int z, .int m, .int what, gF]) (by decide +kernel) (Nat.le_of_ble_eq_true rfl) rfl ?_
  refine g_iload_n dX9_day_0 rfl 1 rfl rfl ?_
  refine g_if_lt dX9_day_1 31 rfl 4 rfl (fun _ => ?_) (fun c => absurd hx c)
  refine g_iconst (-1) dX9_day_31 32 rfl (by decide) ?_
  refine g_ireturn dX9_day_32 rfl rfl (Nat.le_refl _) (Nat.le_refl _) ?_
  have e : rX9_day_a = (-1) := by rw [rX9_day_a]
  rw [e]
  try dsimp only
  exact ⟨rfl, rfl⟩
def rX9_day_b  : Int32 := (-1)
set_option maxRecDepth 100000 in
set_option maxHeartbeats 4000000 in
theorem MX9_day_b {w : gW} {al : Bool} {tl rn ki ag co pa me dki dag dco dpa dme nt tnt os og cs mo le se ab : Int32 → Int32} {tn rp wa be pr dso drs dwa dbe dpr nm ns np tnm tnb tnc tnd tns tnp ph kh oh pk pc lf cu cd : Int32} {pf : Nat → Option Nat} {pst kst : Nat → gS} {sz bo cr de sd : Nat} (z : Int32) (m : Int32) (what : Int32) (hs : sz ≤ 9) (hbo : bo < 512) (hcr : cr < 512) (hde : de < 512) (hsd : sd < 512) (hx0 : ¬ z < 0) (hx : 9999 < z)  : M w gT0 al mX9_day 0 0 (hC tl tn rn rp ki ag co pa me (nI sd) (nI sz) wa be pr dki dag dco dpa dme dso drs dwa dbe dpr nt nm (nI bo) (nI cr) (nI de) ns np tnt tnm tnb tnc tnd tns tnp pf ph pst kh kst os og oh cs mo le se pk pc lf ab cu cd) [.ref 0, .int z, .int m, .int what] (gEq (hC tl tn rn rp ki ag co pa me (nI sd) (nI sz) wa be pr dki dag dco dpa dme dso drs dwa dbe dpr nt nm (nI bo) (nI cr) (nI de) ns np tnt tnm tnb tnc tnd tns tnp pf ph pst kh kst os og oh cs mo le se pk pc lf ab cu cd) (some (.int rX9_day_b))) := by
  refine M.of (L0 := [.ref 0, .int z, .int m, .int what, gF]) (by decide +kernel) (Nat.le_of_ble_eq_true rfl) rfl ?_
  refine g_iload_n dX9_day_0 rfl 1 rfl rfl ?_
  refine g_if_lt dX9_day_1 31 rfl 4 rfl (fun c => absurd c hx0) (fun _ => ?_)
  refine g_iload_n dX9_day_4 rfl 5 rfl rfl ?_
  refine g_sipush 9999 dX9_day_5 8 rfl (by decide) ?_
  refine g_icmp_gt dX9_day_8 31 rfl 11 rfl (fun _ => ?_) (fun c => absurd hx c)
  refine g_iconst (-1) dX9_day_31 32 rfl (by decide) ?_
  refine g_ireturn dX9_day_32 rfl rfl (Nat.le_refl _) (Nat.le_refl _) ?_
  have e : rX9_day_b = (-1) := by rw [rX9_day_b]
  rw [e]
  try dsimp only
  exact ⟨rfl, rfl⟩
def rX9_day_c  : Int32 := (-1)
set_option maxRecDepth 100000 in
set_option maxHeartbeats 4000000 in
theorem MX9_day_c {w : gW} {al : Bool} {tl rn ki ag co pa me dki dag dco dpa dme nt tnt os og cs mo le se ab : Int32 → Int32} {tn rp wa be pr dso drs dwa dbe dpr nm ns np tnm tnb tnc tnd tns tnp ph kh oh pk pc lf cu cd : Int32} {pf : Nat → Option Nat} {pst kst : Nat → gS} {sz bo cr de sd : Nat} (z : Int32) (m : Int32) (what : Int32) (hs : sz ≤ 9) (hbo : bo < 512) (hcr : cr < 512) (hde : de < 512) (hsd : sd < 512) (hx0 : ¬ z < 0) (hx1 : ¬ 9999 < z) (hx : m < 1)  : M w gT0 al mX9_day 0 0 (hC tl tn rn rp ki ag co pa me (nI sd) (nI sz) wa be pr dki dag dco dpa dme dso drs dwa dbe dpr nt nm (nI bo) (nI cr) (nI de) ns np tnt tnm tnb tnc tnd tns tnp pf ph pst kh kst os og oh cs mo le se pk pc lf ab cu cd) [.ref 0, .int z, .int m, .int what] (gEq (hC tl tn rn rp ki ag co pa me (nI sd) (nI sz) wa be pr dki dag dco dpa dme dso drs dwa dbe dpr nt nm (nI bo) (nI cr) (nI de) ns np tnt tnm tnb tnc tnd tns tnp pf ph pst kh kst os og oh cs mo le se pk pc lf ab cu cd) (some (.int rX9_day_c))) := by
  refine M.of (L0 := [.ref 0, .int z, .int m, .int what, gF]) (by decide +kernel) (Nat.le_of_ble_eq_true rfl) rfl ?_
  refine g_iload_n dX9_day_0 rfl 1 rfl rfl ?_
  refine g_if_lt dX9_day_1 31 rfl 4 rfl (fun c => absurd c hx0) (fun _ => ?_)
  refine g_iload_n dX9_day_4 rfl 5 rfl rfl ?_
  refine g_sipush 9999 dX9_day_5 8 rfl (by decide) ?_
  refine g_icmp_gt dX9_day_8 31 rfl 11 rfl (fun c => absurd c hx1) (fun _ => ?_)
  refine g_iload_n dX9_day_11 rfl 12 rfl rfl ?_
  refine g_iconst 1 dX9_day_12 13 rfl (by decide) ?_
  refine g_icmp_lt dX9_day_13 31 rfl 16 rfl (fun _ => ?_) (fun c => absurd hx c)
  refine g_iconst (-1) dX9_day_31 32 rfl (by decide) ?_
  refine g_ireturn dX9_day_32 rfl rfl (Nat.le_refl _) (Nat.le_refl _) ?_
  have e : rX9_day_c = (-1) := by rw [rX9_day_c]
  rw [e]
  try dsimp only
  exact ⟨rfl, rfl⟩
def rX9_day_d  : Int32 := (-1)
set_option maxRecDepth 100000 in
set_option maxHeartbeats 4000000 in
theorem MX9_day_d {w : gW} {al : Bool} {tl rn ki ag co pa me dki dag dco dpa dme nt tnt os og cs mo le se ab : Int32 → Int32} {tn rp wa be pr dso drs dwa dbe dpr nm ns np tnm tnb tnc tnd tns tnp ph kh oh pk pc lf cu cd : Int32} {pf : Nat → Option Nat} {pst kst : Nat → gS} {sz bo cr de sd : Nat} (z : Int32) (m : Int32) (what : Int32) (hs : sz ≤ 9) (hbo : bo < 512) (hcr : cr < 512) (hde : de < 512) (hsd : sd < 512) (hx0 : ¬ z < 0) (hx1 : ¬ 9999 < z) (hx2 : ¬ m < 1) (hx : 60 < m)  : M w gT0 al mX9_day 0 0 (hC tl tn rn rp ki ag co pa me (nI sd) (nI sz) wa be pr dki dag dco dpa dme dso drs dwa dbe dpr nt nm (nI bo) (nI cr) (nI de) ns np tnt tnm tnb tnc tnd tns tnp pf ph pst kh kst os og oh cs mo le se pk pc lf ab cu cd) [.ref 0, .int z, .int m, .int what] (gEq (hC tl tn rn rp ki ag co pa me (nI sd) (nI sz) wa be pr dki dag dco dpa dme dso drs dwa dbe dpr nt nm (nI bo) (nI cr) (nI de) ns np tnt tnm tnb tnc tnd tns tnp pf ph pst kh kst os og oh cs mo le se pk pc lf ab cu cd) (some (.int rX9_day_d))) := by
  refine M.of (L0 := [.ref 0, .int z, .int m, .int what, gF]) (by decide +kernel) (Nat.le_of_ble_eq_true rfl) rfl ?_
  refine g_iload_n dX9_day_0 rfl 1 rfl rfl ?_
  refine g_if_lt dX9_day_1 31 rfl 4 rfl (fun c => absurd c hx0) (fun _ => ?_)
  refine g_iload_n dX9_day_4 rfl 5 rfl rfl ?_
  refine g_sipush 9999 dX9_day_5 8 rfl (by decide) ?_
  refine g_icmp_gt dX9_day_8 31 rfl 11 rfl (fun c => absurd c hx1) (fun _ => ?_)
  refine g_iload_n dX9_day_11 rfl 12 rfl rfl ?_
  refine g_iconst 1 dX9_day_12 13 rfl (by decide) ?_
  refine g_icmp_lt dX9_day_13 31 rfl 16 rfl (fun c => absurd c hx2) (fun _ => ?_)
  refine g_iload_n dX9_day_16 rfl 17 rfl rfl ?_
  refine g_bipush 60 dX9_day_17 19 rfl (by decide) ?_
  refine g_icmp_gt dX9_day_19 31 rfl 22 rfl (fun _ => ?_) (fun c => absurd hx c)
  refine g_iconst (-1) dX9_day_31 32 rfl (by decide) ?_
  refine g_ireturn dX9_day_32 rfl rfl (Nat.le_refl _) (Nat.le_refl _) ?_
  have e : rX9_day_d = (-1) := by rw [rX9_day_d]
  rw [e]
  try dsimp only
  exact ⟨rfl, rfl⟩
