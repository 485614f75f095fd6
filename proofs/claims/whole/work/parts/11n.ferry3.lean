/-! the class: AgesFerry, the packing -/
def rX9_sailings (ki : Int32 → Int32) (ag : Int32 → Int32) (me : Int32 → Int32) (wa : Int32) (be : Int32) (pr : Int32) (nt : Int32 → Int32) (cs : Int32 → Int32) (mo : Int32 → Int32) (le : Int32 → Int32) (pk : Int32) (pc : Int32) (lf : Int32) (what : Int32) (sz : Nat) (cr : Nat) (de : Nat) (sd : Nat) : Int32 × (Int32 → Int32) × (Int32 → Int32) × (Int32 → Int32) × Int32 × Int32 × Int32 := (if what < 0 then ((-1), cs, mo, le, pk, pc, lf) else (if what ≤ 2 then (if what = 0 then (((rX4_pack ki ag me wa be pr nt cs mo le sz cr de sd).2.2.2.1), ((rX4_pack ki ag me wa be pr nt cs mo le sz cr de sd).1), ((rX4_pack ki ag me wa be pr nt cs mo le sz cr de sd).2.1), ((rX4_pack ki ag me wa be pr nt cs mo le sz cr de sd).2.2.1), ((rX4_pack ki ag me wa be pr nt cs mo le sz cr de sd).2.2.2.1), ((rX4_pack ki ag me wa be pr nt cs mo le sz cr de sd).2.2.2.2.1), ((rX4_pack ki ag me wa be pr nt cs mo le sz cr de sd).2.2.2.2.2)) else (if what = 1 then (((rX4_pack ki ag me wa be pr nt cs mo le sz cr de sd).2.2.2.2.1), ((rX4_pack ki ag me wa be pr nt cs mo le sz cr de sd).1), ((rX4_pack ki ag me wa be pr nt cs mo le sz cr de sd).2.1), ((rX4_pack ki ag me wa be pr nt cs mo le sz cr de sd).2.2.1), ((rX4_pack ki ag me wa be pr nt cs mo le sz cr de sd).2.2.2.1), ((rX4_pack ki ag me wa be pr nt cs mo le sz cr de sd).2.2.2.2.1), ((rX4_pack ki ag me wa be pr nt cs mo le sz cr de sd).2.2.2.2.2)) else (((rX4_pack ki ag me wa be pr nt cs mo le sz cr de sd).2.2.2.2.2), ((rX4_pack ki ag me wa be pr nt cs mo le sz cr de sd).1), ((rX4_pack ki ag me wa be pr nt cs mo le sz cr de sd).2.1), ((rX4_pack ki ag me wa be pr nt cs mo le sz cr de sd).2.2.1), ((rX4_pack ki ag me wa be pr nt cs mo le sz cr de sd).2.2.2.1), ((rX4_pack ki ag me wa be pr nt cs mo le sz cr de sd).2.2.2.2.1), ((rX4_pack ki ag me wa be pr nt cs mo le sz cr de sd).2.2.2.2.2)))) else ((-1), cs, mo, le, pk, pc, lf)))
set_option maxRecDepth 100000 in
set_option maxHeartbeats 4000000 in
theorem MX9_sailings {w : gW} {al : Bool} {tl rn ki ag co pa me dki dag dco dpa dme nt tnt os og cs mo le se ab : Int32 → Int32} {tn rp wa be pr dso drs dwa dbe dpr nm ns np tnm tnb tnc tnd tns tnp ph kh oh pk pc lf cu cd : Int32} {pf : Nat → Option Nat} {pst kst : Nat → gS} {sz bo cr de sd : Nat} (what : Int32) (hs : sz ≤ 9) (hbo : bo < 512) (hcr : cr < 512) (hde : de < 512) (hsd : sd < 512)  : M w gT0 al mX9_sailings 0 0 (hC tl tn rn rp ki ag co pa me (nI sd) (nI sz) wa be pr dki dag dco dpa dme dso drs dwa dbe dpr nt nm (nI bo) (nI cr) (nI de) ns np tnt tnm tnb tnc tnd tns tnp pf ph pst kh kst os og oh cs mo le se pk pc lf ab cu cd) [.ref 0, .int what] (gEq (hC tl tn rn rp ki ag co pa me (nI sd) (nI sz) wa be pr dki dag dco dpa dme dso drs dwa dbe dpr nt nm (nI bo) (nI cr) (nI de) ns np tnt tnm tnb tnc tnd tns tnp pf ph pst kh kst os og oh ((rX9_sailings ki ag me wa be pr nt cs mo le pk pc lf what sz cr de sd).2.1) ((rX9_sailings ki ag me wa be pr nt cs mo le pk pc lf what sz cr de sd).2.2.1) ((rX9_sailings ki ag me wa be pr nt cs mo le pk pc lf what sz cr de sd).2.2.2.1) se ((rX9_sailings ki ag me wa be pr nt cs mo le pk pc lf what sz cr de sd).2.2.2.2.1) ((rX9_sailings ki ag me wa be pr nt cs mo le pk pc lf what sz cr de sd).2.2.2.2.2.1) ((rX9_sailings ki ag me wa be pr nt cs mo le pk pc lf what sz cr de sd).2.2.2.2.2.2) ab cu cd) (some (.int ((rX9_sailings ki ag me wa be pr nt cs mo le pk pc lf what sz cr de sd).1)))) := by
  refine M.of (L0 := [.ref 0, .int what]) (by decide +kernel) (Nat.le_of_ble_eq_true rfl) rfl ?_
  refine g_iload_n dX9_sailings_0 rfl 1 rfl rfl ?_
  refine g_if_lt dX9_sailings_1 9 rfl 4 rfl (fun c1 => ?_) (fun c1 => ?_)
  · refine g_iconst (-1) dX9_sailings_9 10 rfl (by decide) ?_
    refine g_ireturn dX9_sailings_10 rfl rfl (Nat.le_refl _) (Nat.le_refl _) ?_
    have e : (rX9_sailings ki ag me wa be pr nt cs mo le pk pc lf what sz cr de sd) = ((-1), cs, mo, le, pk, pc, lf) := by rw [rX9_sailings, if_pos c1]
    rw [e]
    try dsimp only
    exact ⟨rfl, rfl⟩
  · refine g_iload_n dX9_sailings_4 rfl 5 rfl rfl ?_
    refine g_iconst 2 dX9_sailings_5 6 rfl (by decide) ?_
    refine g_icmp_le dX9_sailings_6 11 rfl 9 rfl (fun c2 => ?_) (fun c2 => ?_)
    · refine g_aload_n dX9_sailings_11 rfl 12 rfl rfl ?_
      refine g_get (v := .ref 74) dX9_sailings_12 15 rfl lX9_71 rfl rfl ?_
      refine g_cV0 (as := []) (st := []) dX9_sailings_15 18 rfl kX9_194 ⟨Nat.le_of_ble_eq_true rfl, Nat.le_of_ble_eq_true rfl⟩ (MX4_pack (sz := sz) (bo := bo) (cr := cr) (de := de) (sd := sd) (by omega) (by omega)) rfl rfl rfl rfl (Nat.le_of_ble_eq_true rfl) (Nat.le_refl _) (Nat.le_refl _) ?_
      refine g_iload_n dX9_sailings_18 rfl 19 rfl rfl ?_
      refine g_if_ne dX9_sailings_19 32 rfl 22 rfl (fun c3 => ?_) (fun c3 => ?_)
      · refine g_iload_n dX9_sailings_32 rfl 33 rfl rfl ?_
        refine g_iconst 1 dX9_sailings_33 34 rfl (by decide) ?_
        refine g_icmp_ne dX9_sailings_34 47 rfl 37 rfl (fun c4 => ?_) (fun c4 => ?_)
        · refine g_aload_n dX9_sailings_47 rfl 48 rfl rfl ?_
          refine g_get (v := .ref 74) dX9_sailings_48 51 rfl lX9_71 rfl rfl ?_
          refine g_get (v := .int ((rX4_pack ki ag me wa be pr nt cs mo le sz cr de sd).2.2.2.2.2)) dX9_sailings_51 54 rfl lX9_203 rfl rfl ?_
          refine g_ireturn dX9_sailings_54 rfl rfl (Nat.le_refl _) (Nat.le_refl _) ?_
          have e : (rX9_sailings ki ag me wa be pr nt cs mo le pk pc lf what sz cr de sd) = (((rX4_pack ki ag me wa be pr nt cs mo le sz cr de sd).2.2.2.2.2), ((rX4_pack ki ag me wa be pr nt cs mo le sz cr de sd).1), ((rX4_pack ki ag me wa be pr nt cs mo le sz cr de sd).2.1), ((rX4_pack ki ag me wa be pr nt cs mo le sz cr de sd).2.2.1), ((rX4_pack ki ag me wa be pr nt cs mo le sz cr de sd).2.2.2.1), ((rX4_pack ki ag me wa be pr nt cs mo le sz cr de sd).2.2.2.2.1), ((rX4_pack ki ag me wa be pr nt cs mo le sz cr de sd).2.2.2.2.2)) := by rw [rX9_sailings, if_neg c1, if_pos c2, if_neg c3, if_neg c4]
          rw [e]
          try dsimp only
          exact ⟨rfl, rfl⟩
        · refine g_aload_n dX9_sailings_37 rfl 38 rfl rfl ?_
          refine g_get (v := .ref 74) dX9_sailings_38 41 rfl lX9_71 rfl rfl ?_
          refine g_get (v := .int ((rX4_pack ki ag me wa be pr nt cs mo le sz cr de sd).2.2.2.2.1)) dX9_sailings_41 44 rfl lX9_200 rfl rfl ?_
          refine g_goto dX9_sailings_44 54 rfl ?_
          refine g_ireturn dX9_sailings_54 rfl rfl (Nat.le_refl _) (Nat.le_refl _) ?_
          have e : (rX9_sailings ki ag me wa be pr nt cs mo le pk pc lf what sz cr de sd) = (((rX4_pack ki ag me wa be pr nt cs mo le sz cr de sd).2.2.2.2.1), ((rX4_pack ki ag me wa be pr nt cs mo le sz cr de sd).1), ((rX4_pack ki ag me wa be pr nt cs mo le sz cr de sd).2.1), ((rX4_pack ki ag me wa be pr nt cs mo le sz cr de sd).2.2.1), ((rX4_pack ki ag me wa be pr nt cs mo le sz cr de sd).2.2.2.1), ((rX4_pack ki ag me wa be pr nt cs mo le sz cr de sd).2.2.2.2.1), ((rX4_pack ki ag me wa be pr nt cs mo le sz cr de sd).2.2.2.2.2)) := by rw [rX9_sailings, if_neg c1, if_pos c2, if_neg c3, if_pos c4]
          rw [e]
          try dsimp only
          exact ⟨rfl, rfl⟩
      · refine g_aload_n dX9_sailings_22 rfl 23 rfl rfl ?_
        refine g_get (v := .ref 74) dX9_sailings_23 26 rfl lX9_71 rfl rfl ?_
        refine g_get (v := .int ((rX4_pack ki ag me wa be pr nt cs mo le sz cr de sd).2.2.2.1)) dX9_sailings_26 29 rfl lX9_197 rfl rfl ?_
        refine g_goto dX9_sailings_29 54 rfl ?_
        refine g_ireturn dX9_sailings_54 rfl rfl (Nat.le_refl _) (Nat.le_refl _) ?_
        have e : (rX9_sailings ki ag me wa be pr nt cs mo le pk pc lf what sz cr de sd) = (((rX4_pack ki ag me wa be pr nt cs mo le sz cr de sd).2.2.2.1), ((rX4_pack ki ag me wa be pr nt cs mo le sz cr de sd).1), ((rX4_pack ki ag me wa be pr nt cs mo le sz cr de sd).2.1), ((rX4_pack ki ag me wa be pr nt cs mo le sz cr de sd).2.2.1), ((rX4_pack ki ag me wa be pr nt cs mo le sz cr de sd).2.2.2.1), ((rX4_pack ki ag me wa be pr nt cs mo le sz cr de sd).2.2.2.2.1), ((rX4_pack ki ag me wa be pr nt cs mo le sz cr de sd).2.2.2.2.2)) := by rw [rX9_sailings, if_neg c1, if_pos c2, if_pos c3]
        rw [e]
        try dsimp only
        exact ⟨rfl, rfl⟩
    · refine g_iconst (-1) dX9_sailings_9 10 rfl (by decide) ?_
      refine g_ireturn dX9_sailings_10 rfl rfl (Nat.le_refl _) (Nat.le_refl _) ?_
      have e : (rX9_sailings ki ag me wa be pr nt cs mo le pk pc lf what sz cr de sd) = ((-1), cs, mo, le, pk, pc, lf) := by rw [rX9_sailings, if_neg c1, if_neg c2]
      rw [e]
      try dsimp only
      exact ⟨rfl, rfl⟩
