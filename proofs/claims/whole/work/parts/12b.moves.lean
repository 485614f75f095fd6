/-! the class: AgesFerry, moves -/
theorem takeOn_lt {p bo : Nat} (hbo : bo < 512) (hp : p < 9) : rX6_takeOn_29 p bo < 512 := Nat.or_lt_two_pow (n := 9) hbo (Nat.pow_lt_pow_right (by decide) hp)
theorem letOff_lt {p bo : Nat} (hbo : bo < 512) : rX6_letOff_29 p bo < 512 := Nat.lt_of_le_of_lt andN_le hbo
def rX9_pass (nt : Int32 → Int32) (nm : Int32) (ns : Int32) (np : Int32) (pst : Nat → gS) (m : Int32) (bo : Nat) (cr : Nat) (de : Nat) (pn : Nat) (pg : Nat → Nat) : Int32 × Int32 × (Nat → Option Nat) × Nat × (Nat → gS) := (if m < 1 then ((-1), nm, (shl pg), pn, pst) else (if m ≤ 60 then ((nm + m), (nm + m), (shl (pgA pg pn)), kNx pn, (pstA pst pg pn (nt, nm, (nI bo), (nI cr), (nI de), ns, np))) else ((-1), nm, (shl pg), pn, pst)))
set_option maxRecDepth 100000 in
set_option maxHeartbeats 4000000 in
theorem MX9_pass {w : gW} {al : Bool} {tl rn ki ag co pa me dki dag dco dpa dme nt tnt os og cs mo le se ab : Int32 → Int32} {tn rp wa be pr dso drs dwa dbe dpr nm ns np tnm tnb tnc tnd tns tnp kh oh pk pc lf cu cd : Int32} {pst kst : Nat → gS} {sz bo cr de sd pn : Nat} {pg : Nat → Nat} (m : Int32) (hs : sz ≤ 9) (hbo : bo < 512) (hcr : cr < 512) (hde : de < 512) (hsd : sd < 512) (hpn : pn ≤ 8) (hpg : ∀ j, j < 8 → pg j < 8)  : M w gT0 al mX9_pass 0 0 (hC tl tn rn rp ki ag co pa me (nI sd) (nI sz) wa be pr dki dag dco dpa dme dso drs dwa dbe dpr nt nm (nI bo) (nI cr) (nI de) ns np tnt tnm tnb tnc tnd tns tnp (shl pg) (nI pn) pst kh kst os og oh cs mo le se pk pc lf ab cu cd) [.ref 0, .int m] (gEq (hC tl tn rn rp ki ag co pa me (nI sd) (nI sz) wa be pr dki dag dco dpa dme dso drs dwa dbe dpr nt ((rX9_pass nt nm ns np pst m bo cr de pn pg).2.1) (nI bo) (nI cr) (nI de) ns np tnt tnm tnb tnc tnd tns tnp ((rX9_pass nt nm ns np pst m bo cr de pn pg).2.2.1) (nI ((rX9_pass nt nm ns np pst m bo cr de pn pg).2.2.2.1)) ((rX9_pass nt nm ns np pst m bo cr de pn pg).2.2.2.2) kh kst os og oh cs mo le se pk pc lf ab cu cd) (some (.int ((rX9_pass nt nm ns np pst m bo cr de pn pg).1)))) := by
  refine M.of (L0 := [.ref 0, .int m]) (by decide +kernel) (Nat.le_of_ble_eq_true rfl) rfl ?_
  refine g_iload_n dX9_pass_0 rfl 1 rfl rfl ?_
  refine g_iconst 1 dX9_pass_1 2 rfl (by decide) ?_
  refine g_icmp_lt dX9_pass_2 11 rfl 5 rfl (fun c1 => ?_) (fun c1 => ?_)
  · refine g_iconst (-1) dX9_pass_11 12 rfl (by decide) ?_
    refine g_ireturn dX9_pass_12 rfl rfl (Nat.le_refl _) (Nat.le_refl _) ?_
    have e : (rX9_pass nt nm ns np pst m bo cr de pn pg) = ((-1), nm, (shl pg), pn, pst) := by rw [rX9_pass, if_pos c1]
    rw [e]
    try dsimp only
    exact ⟨rfl, rfl⟩
  · refine g_iload_n dX9_pass_5 rfl 6 rfl rfl ?_
    refine g_bipush 60 dX9_pass_6 8 rfl (by decide) ?_
    refine g_icmp_le dX9_pass_8 13 rfl 11 rfl (fun c2 => ?_) (fun c2 => ?_)
    · refine g_aload_n dX9_pass_13 rfl 14 rfl rfl ?_
      refine g_get (v := .ref 35) dX9_pass_14 17 rfl lX9_52 rfl rfl ?_
      refine g_aload_n dX9_pass_17 rfl 18 rfl rfl ?_
      refine g_get (v := .ref 29) dX9_pass_18 21 rfl lX9_40 rfl rfl ?_
      refine g_cV0 (as := [.ref 29]) (st := []) dX9_pass_21 24 rfl kX9_164 ⟨Nat.le_of_ble_eq_true rfl, Nat.le_of_ble_eq_true rfl⟩ (MX5_add_35 (pg := pg) (pn := pn) hpn hpg) rfl rfl rfl rfl (Nat.le_of_ble_eq_true rfl) (Nat.le_refl _) (Nat.le_refl _) ?_
      refine g_aload_n dX9_pass_24 rfl 25 rfl rfl ?_
      refine g_get (v := .ref 29) dX9_pass_25 28 rfl lX9_40 rfl rfl ?_
      refine g_dup dX9_pass_28 29 rfl rfl ?_
      refine g_get (v := .int nm) dX9_pass_29 32 rfl lX9_166 rfl rfl ?_
      refine g_iload_n dX9_pass_32 rfl 33 rfl rfl ?_
      refine g_iadd dX9_pass_33 34 rfl ?_
      refine g_put dX9_pass_34 37 rfl lX9_166 wrX6 rfl rfl rfl rfl rfl (Nat.le_of_ble_eq_true rfl) (h' := (hC tl tn rn rp ki ag co pa me (nI sd) (nI sz) wa be pr dki dag dco dpa dme dso drs dwa dbe dpr nt (nm + m) (nI bo) (nI cr) (nI de) ns np tnt tnm tnb tnc tnd tns tnp (shl (pgA pg pn)) (nI (kNx pn)) (pstA pst pg pn (nt, nm, (nI bo), (nI cr), (nI de), ns, np)) kh kst os og oh cs mo le se pk pc lf ab cu cd)) rfl ?_
      refine g_aload_n dX9_pass_37 rfl 38 rfl rfl ?_
      refine g_get (v := .ref 29) dX9_pass_38 41 rfl lX9_40 rfl rfl ?_
      refine g_get (v := .int (nm + m)) dX9_pass_41 44 rfl lX9_166 rfl rfl ?_
      refine g_ireturn dX9_pass_44 rfl rfl (Nat.le_refl _) (Nat.le_refl _) ?_
      have e : (rX9_pass nt nm ns np pst m bo cr de pn pg) = ((nm + m), (nm + m), (shl (pgA pg pn)), kNx pn, (pstA pst pg pn (nt, nm, (nI bo), (nI cr), (nI de), ns, np))) := by rw [rX9_pass, if_neg c1, if_pos c2]
      rw [e]
      try dsimp only
      exact ⟨rfl, rfl⟩
    · refine g_iconst (-1) dX9_pass_11 12 rfl (by decide) ?_
      refine g_ireturn dX9_pass_12 rfl rfl (Nat.le_refl _) (Nat.le_refl _) ?_
      have e : (rX9_pass nt nm ns np pst m bo cr de pn pg) = ((-1), nm, (shl pg), pn, pst) := by rw [rX9_pass, if_neg c1, if_neg c2]
      rw [e]
      try dsimp only
      exact ⟨rfl, rfl⟩
def rX9_board (ki : Int32 → Int32) (ag : Int32 → Int32) (co : Int32 → Int32) (nt : Int32 → Int32) (nm : Int32) (ns : Int32) (np : Int32) (pst : Nat → gS) (p : Nat) (sz : Nat) (bo : Nat) (cr : Nat) (de : Nat) (sd : Nat) (pn : Nat) (pg : Nat → Nat) : Int32 × Nat × (Nat → Option Nat) × Nat × (Nat → gS) := (if (rX6_placeOf_29 co nm p bo cr de) = 1 then ((rX6_totalOf_29 ki ag nt (rX6_takeOn_29 p bo) sz sd), (rX6_takeOn_29 p bo), (shl (pgA pg pn)), kNx pn, (pstA pst pg pn (nt, nm, (nI bo), (nI cr), (nI de), ns, np))) else ((-2), bo, (shl pg), pn, pst))
set_option maxRecDepth 100000 in
set_option maxHeartbeats 4000000 in
theorem MX9_board {w : gW} {al : Bool} {tl rn ki ag co pa me dki dag dco dpa dme nt tnt os og cs mo le se ab : Int32 → Int32} {tn rp wa be pr dso drs dwa dbe dpr nm ns np tnm tnb tnc tnd tns tnp kh oh pk pc lf cu cd : Int32} {pst kst : Nat → gS} {sz bo cr de sd pn : Nat} {pg : Nat → Nat} (p : Nat) (hs : sz ≤ 9) (hbo : bo < 512) (hcr : cr < 512) (hde : de < 512) (hsd : sd < 512) (hpn : pn ≤ 8) (hpg : ∀ j, j < 8 → pg j < 8) (hp : p < 9) (hv : (rX9_isPerson (nI p) sz) = true)  : M w gT0 al mX9_board 0 0 (hC tl tn rn rp ki ag co pa me (nI sd) (nI sz) wa be pr dki dag dco dpa dme dso drs dwa dbe dpr nt nm (nI bo) (nI cr) (nI de) ns np tnt tnm tnb tnc tnd tns tnp (shl pg) (nI pn) pst kh kst os og oh cs mo le se pk pc lf ab cu cd) [.ref 0, .int (nI p)] (gEq (hC tl tn rn rp ki ag co pa me (nI sd) (nI sz) wa be pr dki dag dco dpa dme dso drs dwa dbe dpr nt nm (nI ((rX9_board ki ag co nt nm ns np pst p sz bo cr de sd pn pg).2.1)) (nI cr) (nI de) ns np tnt tnm tnb tnc tnd tns tnp ((rX9_board ki ag co nt nm ns np pst p sz bo cr de sd pn pg).2.2.1) (nI ((rX9_board ki ag co nt nm ns np pst p sz bo cr de sd pn pg).2.2.2.1)) ((rX9_board ki ag co nt nm ns np pst p sz bo cr de sd pn pg).2.2.2.2) kh kst os og oh cs mo le se pk pc lf ab cu cd) (some (.int ((rX9_board ki ag co nt nm ns np pst p sz bo cr de sd pn pg).1)))) := by
  refine M.of (L0 := [.ref 0, .int (nI p)]) (by decide +kernel) (Nat.le_of_ble_eq_true rfl) rfl ?_
  refine g_aload_n dX9_board_0 rfl 1 rfl rfl ?_
  refine g_iload_n dX9_board_1 rfl 2 rfl rfl ?_
  refine g_cVv (as := [.int (nI p)]) (st := []) dX9_board_2 5 rfl kX9_117 ⟨Nat.le_of_ble_eq_true rfl, Nat.le_of_ble_eq_true rfl⟩ (MX9_isPerson (sz := sz) (nI p)) rfl rfl rfl rfl (Nat.le_of_ble_eq_true rfl) (Nat.le_refl _) (Nat.le_refl _) ?_
  refine g_if_ne dX9_board_5 10 rfl 8 rfl (fun _ => ?_) (fun c => absurd c (gB_1 hv))
  refine g_aload_n dX9_board_10 rfl 11 rfl rfl ?_
  refine g_get (v := .ref 29) dX9_board_11 14 rfl lX9_40 rfl rfl ?_
  refine g_iload_n dX9_board_14 rfl 15 rfl rfl ?_
  refine g_cVv (as := [.int (nI p)]) (st := []) dX9_board_15 18 rfl kX9_140 ⟨Nat.le_of_ble_eq_true rfl, Nat.le_of_ble_eq_true rfl⟩ (MX6_placeOf_29 (sz := sz) (bo := bo) (cr := cr) (de := de) (sd := sd) p (by omega) (by omega) (by omega) (by omega) (by omega)) rfl rfl rfl rfl (Nat.le_of_ble_eq_true rfl) (Nat.le_refl _) (Nat.le_refl _) ?_
  refine g_iconst 1 dX9_board_18 19 rfl (by decide) ?_
  refine g_icmp_eq dX9_board_19 25 rfl 22 rfl (fun c1 => ?_) (fun c1 => ?_)
  · refine g_aload_n dX9_board_25 rfl 26 rfl rfl ?_
    refine g_get (v := .ref 35) dX9_board_26 29 rfl lX9_52 rfl rfl ?_
    refine g_aload_n dX9_board_29 rfl 30 rfl rfl ?_
    refine g_get (v := .ref 29) dX9_board_30 33 rfl lX9_40 rfl rfl ?_
    refine g_cV0 (as := [.ref 29]) (st := []) dX9_board_33 36 rfl kX9_164 ⟨Nat.le_of_ble_eq_true rfl, Nat.le_of_ble_eq_true rfl⟩ (MX5_add_35 (pg := pg) (pn := pn) hpn hpg) rfl rfl rfl rfl (Nat.le_of_ble_eq_true rfl) (Nat.le_refl _) (Nat.le_refl _) ?_
    refine g_aload_n dX9_board_36 rfl 37 rfl rfl ?_
    refine g_get (v := .ref 29) dX9_board_37 40 rfl lX9_40 rfl rfl ?_
    refine g_iload_n dX9_board_40 rfl 41 rfl rfl ?_
    refine g_cV0 (as := [.int (nI p)]) (st := []) dX9_board_41 44 rfl kX9_169 ⟨Nat.le_of_ble_eq_true rfl, Nat.le_of_ble_eq_true rfl⟩ (MX6_takeOn_29 (sz := sz) (bo := bo) (cr := cr) (de := de) (sd := sd) p (by omega) (by omega)) rfl rfl rfl rfl (Nat.le_of_ble_eq_true rfl) (Nat.le_refl _) (Nat.le_refl _) ?_
    refine g_aload_n dX9_board_44 rfl 45 rfl rfl ?_
    refine g_get (v := .ref 29) dX9_board_45 48 rfl lX9_40 rfl rfl ?_
    refine g_aload_n dX9_board_48 rfl 49 rfl rfl ?_
    refine g_get (v := .ref 29) dX9_board_49 52 rfl lX9_40 rfl rfl ?_
    refine g_get (v := .int (nI (rX6_takeOn_29 p bo))) dX9_board_52 55 rfl lX9_146 rfl rfl ?_
    refine g_cVv (as := [.int (nI (rX6_takeOn_29 p bo))]) (st := []) dX9_board_55 58 rfl kX9_149 ⟨Nat.le_of_ble_eq_true rfl, Nat.le_of_ble_eq_true rfl⟩ (MX6_totalOf_29 (sz := sz) (bo := (rX6_takeOn_29 p bo)) (cr := cr) (de := de) (sd := sd) (rX6_takeOn_29 p bo) (by omega) (by omega) (takeOn_lt (by omega) (by omega))) rfl rfl rfl rfl (Nat.le_of_ble_eq_true rfl) (Nat.le_refl _) (Nat.le_refl _) ?_
    refine g_ireturn dX9_board_58 rfl rfl (Nat.le_refl _) (Nat.le_refl _) ?_
    have e : (rX9_board ki ag co nt nm ns np pst p sz bo cr de sd pn pg) = ((rX6_totalOf_29 ki ag nt (rX6_takeOn_29 p bo) sz sd), (rX6_takeOn_29 p bo), (shl (pgA pg pn)), kNx pn, (pstA pst pg pn (nt, nm, (nI bo), (nI cr), (nI de), ns, np))) := by rw [rX9_board, if_pos c1]
    rw [e]
    try dsimp only
    exact ⟨rfl, rfl⟩
  · refine g_bipush (-2) dX9_board_22 24 rfl (by decide) ?_
    refine g_ireturn dX9_board_24 rfl rfl (Nat.le_refl _) (Nat.le_refl _) ?_
    have e : (rX9_board ki ag co nt nm ns np pst p sz bo cr de sd pn pg) = ((-2), bo, (shl pg), pn, pst) := by rw [rX9_board, if_neg c1]
    rw [e]
    try dsimp only
    exact ⟨rfl, rfl⟩
def rX9_board_x  : Int32 := (-1)
set_option maxRecDepth 100000 in
set_option maxHeartbeats 4000000 in
theorem MX9_board_x {w : gW} {al : Bool} {tl rn ki ag co pa me dki dag dco dpa dme nt tnt os og cs mo le se ab : Int32 → Int32} {tn rp wa be pr dso drs dwa dbe dpr nm ns np tnm tnb tnc tnd tns tnp ph kh oh pk pc lf cu cd : Int32} {pf : Nat → Option Nat} {pst kst : Nat → gS} {sz bo cr de sd : Nat} (p : Int32) (hs : sz ≤ 9) (hbo : bo < 512) (hcr : cr < 512) (hde : de < 512) (hsd : sd < 512) (hv : ¬ (rX9_isPerson p sz) = true)  : M w gT0 al mX9_board 0 0 (hC tl tn rn rp ki ag co pa me (nI sd) (nI sz) wa be pr dki dag dco dpa dme dso drs dwa dbe dpr nt nm (nI bo) (nI cr) (nI de) ns np tnt tnm tnb tnc tnd tns tnp pf ph pst kh kst os og oh cs mo le se pk pc lf ab cu cd) [.ref 0, .int p] (gEq (hC tl tn rn rp ki ag co pa me (nI sd) (nI sz) wa be pr dki dag dco dpa dme dso drs dwa dbe dpr nt nm (nI bo) (nI cr) (nI de) ns np tnt tnm tnb tnc tnd tns tnp pf ph pst kh kst os og oh cs mo le se pk pc lf ab cu cd) (some (.int rX9_board_x))) := by
  refine M.of (L0 := [.ref 0, .int p]) (by decide +kernel) (Nat.le_of_ble_eq_true rfl) rfl ?_
  refine g_aload_n dX9_board_0 rfl 1 rfl rfl ?_
  refine g_iload_n dX9_board_1 rfl 2 rfl rfl ?_
  refine g_cVv (as := [.int p]) (st := []) dX9_board_2 5 rfl kX9_117 ⟨Nat.le_of_ble_eq_true rfl, Nat.le_of_ble_eq_true rfl⟩ (MX9_isPerson (sz := sz) p) rfl rfl rfl rfl (Nat.le_of_ble_eq_true rfl) (Nat.le_refl _) (Nat.le_refl _) ?_
  refine g_if_ne dX9_board_5 10 rfl 8 rfl (fun c => absurd (gB_0 hv) c) (fun _ => ?_)
  refine g_iconst (-1) dX9_board_8 9 rfl (by decide) ?_
  refine g_ireturn dX9_board_9 rfl rfl (Nat.le_refl _) (Nat.le_refl _) ?_
  have e : rX9_board_x = (-1) := by rw [rX9_board_x]
  rw [e]
  try dsimp only
  exact ⟨rfl, rfl⟩
def rX9_stepOff (ki : Int32 → Int32) (ag : Int32 → Int32) (co : Int32 → Int32) (nt : Int32 → Int32) (nm : Int32) (ns : Int32) (np : Int32) (pst : Nat → gS) (p : Nat) (sz : Nat) (bo : Nat) (cr : Nat) (de : Nat) (sd : Nat) (pn : Nat) (pg : Nat → Nat) : Int32 × Nat × (Nat → Option Nat) × Nat × (Nat → gS) := (if (rX6_placeOf_29 co nm p bo cr de) = 2 then ((rX6_totalOf_29 ki ag nt (rX6_letOff_29 p bo) sz sd), (rX6_letOff_29 p bo), (shl (pgA pg pn)), kNx pn, (pstA pst pg pn (nt, nm, (nI bo), (nI cr), (nI de), ns, np))) else ((-2), bo, (shl pg), pn, pst))
set_option maxRecDepth 100000 in
set_option maxHeartbeats 4000000 in
theorem MX9_stepOff {w : gW} {al : Bool} {tl rn ki ag co pa me dki dag dco dpa dme nt tnt os og cs mo le se ab : Int32 → Int32} {tn rp wa be pr dso drs dwa dbe dpr nm ns np tnm tnb tnc tnd tns tnp kh oh pk pc lf cu cd : Int32} {pst kst : Nat → gS} {sz bo cr de sd pn : Nat} {pg : Nat → Nat} (p : Nat) (hs : sz ≤ 9) (hbo : bo < 512) (hcr : cr < 512) (hde : de < 512) (hsd : sd < 512) (hpn : pn ≤ 8) (hpg : ∀ j, j < 8 → pg j < 8) (hp : p < 9) (hv : (rX9_isPerson (nI p) sz) = true)  : M w gT0 al mX9_stepOff 0 0 (hC tl tn rn rp ki ag co pa me (nI sd) (nI sz) wa be pr dki dag dco dpa dme dso drs dwa dbe dpr nt nm (nI bo) (nI cr) (nI de) ns np tnt tnm tnb tnc tnd tns tnp (shl pg) (nI pn) pst kh kst os og oh cs mo le se pk pc lf ab cu cd) [.ref 0, .int (nI p)] (gEq (hC tl tn rn rp ki ag co pa me (nI sd) (nI sz) wa be pr dki dag dco dpa dme dso drs dwa dbe dpr nt nm (nI ((rX9_stepOff ki ag co nt nm ns np pst p sz bo cr de sd pn pg).2.1)) (nI cr) (nI de) ns np tnt tnm tnb tnc tnd tns tnp ((rX9_stepOff ki ag co nt nm ns np pst p sz bo cr de sd pn pg).2.2.1) (nI ((rX9_stepOff ki ag co nt nm ns np pst p sz bo cr de sd pn pg).2.2.2.1)) ((rX9_stepOff ki ag co nt nm ns np pst p sz bo cr de sd pn pg).2.2.2.2) kh kst os og oh cs mo le se pk pc lf ab cu cd) (some (.int ((rX9_stepOff ki ag co nt nm ns np pst p sz bo cr de sd pn pg).1)))) := by
  refine M.of (L0 := [.ref 0, .int (nI p)]) (by decide +kernel) (Nat.le_of_ble_eq_true rfl) rfl ?_
  refine g_aload_n dX9_stepOff_0 rfl 1 rfl rfl ?_
  refine g_iload_n dX9_stepOff_1 rfl 2 rfl rfl ?_
  refine g_cVv (as := [.int (nI p)]) (st := []) dX9_stepOff_2 5 rfl kX9_117 ⟨Nat.le_of_ble_eq_true rfl, Nat.le_of_ble_eq_true rfl⟩ (MX9_isPerson (sz := sz) (nI p)) rfl rfl rfl rfl (Nat.le_of_ble_eq_true rfl) (Nat.le_refl _) (Nat.le_refl _) ?_
  refine g_if_ne dX9_stepOff_5 10 rfl 8 rfl (fun _ => ?_) (fun c => absurd c (gB_1 hv))
  refine g_aload_n dX9_stepOff_10 rfl 11 rfl rfl ?_
  refine g_get (v := .ref 29) dX9_stepOff_11 14 rfl lX9_40 rfl rfl ?_
  refine g_iload_n dX9_stepOff_14 rfl 15 rfl rfl ?_
  refine g_cVv (as := [.int (nI p)]) (st := []) dX9_stepOff_15 18 rfl kX9_140 ⟨Nat.le_of_ble_eq_true rfl, Nat.le_of_ble_eq_true rfl⟩ (MX6_placeOf_29 (sz := sz) (bo := bo) (cr := cr) (de := de) (sd := sd) p (by omega) (by omega) (by omega) (by omega) (by omega)) rfl rfl rfl rfl (Nat.le_of_ble_eq_true rfl) (Nat.le_refl _) (Nat.le_refl _) ?_
  refine g_iconst 2 dX9_stepOff_18 19 rfl (by decide) ?_
  refine g_icmp_eq dX9_stepOff_19 25 rfl 22 rfl (fun c1 => ?_) (fun c1 => ?_)
  · refine g_aload_n dX9_stepOff_25 rfl 26 rfl rfl ?_
    refine g_get (v := .ref 35) dX9_stepOff_26 29 rfl lX9_52 rfl rfl ?_
    refine g_aload_n dX9_stepOff_29 rfl 30 rfl rfl ?_
    refine g_get (v := .ref 29) dX9_stepOff_30 33 rfl lX9_40 rfl rfl ?_
    refine g_cV0 (as := [.ref 29]) (st := []) dX9_stepOff_33 36 rfl kX9_164 ⟨Nat.le_of_ble_eq_true rfl, Nat.le_of_ble_eq_true rfl⟩ (MX5_add_35 (pg := pg) (pn := pn) hpn hpg) rfl rfl rfl rfl (Nat.le_of_ble_eq_true rfl) (Nat.le_refl _) (Nat.le_refl _) ?_
    refine g_aload_n dX9_stepOff_36 rfl 37 rfl rfl ?_
    refine g_get (v := .ref 29) dX9_stepOff_37 40 rfl lX9_40 rfl rfl ?_
    refine g_iload_n dX9_stepOff_40 rfl 41 rfl rfl ?_
    refine g_cV0 (as := [.int (nI p)]) (st := []) dX9_stepOff_41 44 rfl kX9_172 ⟨Nat.le_of_ble_eq_true rfl, Nat.le_of_ble_eq_true rfl⟩ (MX6_letOff_29 (sz := sz) (bo := bo) (cr := cr) (de := de) (sd := sd) p (by omega) (by omega)) rfl rfl rfl rfl (Nat.le_of_ble_eq_true rfl) (Nat.le_refl _) (Nat.le_refl _) ?_
    refine g_aload_n dX9_stepOff_44 rfl 45 rfl rfl ?_
    refine g_get (v := .ref 29) dX9_stepOff_45 48 rfl lX9_40 rfl rfl ?_
    refine g_aload_n dX9_stepOff_48 rfl 49 rfl rfl ?_
    refine g_get (v := .ref 29) dX9_stepOff_49 52 rfl lX9_40 rfl rfl ?_
    refine g_get (v := .int (nI (rX6_letOff_29 p bo))) dX9_stepOff_52 55 rfl lX9_146 rfl rfl ?_
    refine g_cVv (as := [.int (nI (rX6_letOff_29 p bo))]) (st := []) dX9_stepOff_55 58 rfl kX9_149 ⟨Nat.le_of_ble_eq_true rfl, Nat.le_of_ble_eq_true rfl⟩ (MX6_totalOf_29 (sz := sz) (bo := (rX6_letOff_29 p bo)) (cr := cr) (de := de) (sd := sd) (rX6_letOff_29 p bo) (by omega) (by omega) (letOff_lt (by omega))) rfl rfl rfl rfl (Nat.le_of_ble_eq_true rfl) (Nat.le_refl _) (Nat.le_refl _) ?_
    refine g_ireturn dX9_stepOff_58 rfl rfl (Nat.le_refl _) (Nat.le_refl _) ?_
    have e : (rX9_stepOff ki ag co nt nm ns np pst p sz bo cr de sd pn pg) = ((rX6_totalOf_29 ki ag nt (rX6_letOff_29 p bo) sz sd), (rX6_letOff_29 p bo), (shl (pgA pg pn)), kNx pn, (pstA pst pg pn (nt, nm, (nI bo), (nI cr), (nI de), ns, np))) := by rw [rX9_stepOff, if_pos c1]
    rw [e]
    try dsimp only
    exact ⟨rfl, rfl⟩
  · refine g_bipush (-2) dX9_stepOff_22 24 rfl (by decide) ?_
    refine g_ireturn dX9_stepOff_24 rfl rfl (Nat.le_refl _) (Nat.le_refl _) ?_
    have e : (rX9_stepOff ki ag co nt nm ns np pst p sz bo cr de sd pn pg) = ((-2), bo, (shl pg), pn, pst) := by rw [rX9_stepOff, if_neg c1]
    rw [e]
    try dsimp only
    exact ⟨rfl, rfl⟩
def rX9_stepOff_x  : Int32 := (-1)
set_option maxRecDepth 100000 in
set_option maxHeartbeats 4000000 in
theorem MX9_stepOff_x {w : gW} {al : Bool} {tl rn ki ag co pa me dki dag dco dpa dme nt tnt os og cs mo le se ab : Int32 → Int32} {tn rp wa be pr dso drs dwa dbe dpr nm ns np tnm tnb tnc tnd tns tnp ph kh oh pk pc lf cu cd : Int32} {pf : Nat → Option Nat} {pst kst : Nat → gS} {sz bo cr de sd : Nat} (p : Int32) (hs : sz ≤ 9) (hbo : bo < 512) (hcr : cr < 512) (hde : de < 512) (hsd : sd < 512) (hv : ¬ (rX9_isPerson p sz) = true)  : M w gT0 al mX9_stepOff 0 0 (hC tl tn rn rp ki ag co pa me (nI sd) (nI sz) wa be pr dki dag dco dpa dme dso drs dwa dbe dpr nt nm (nI bo) (nI cr) (nI de) ns np tnt tnm tnb tnc tnd tns tnp pf ph pst kh kst os og oh cs mo le se pk pc lf ab cu cd) [.ref 0, .int p] (gEq (hC tl tn rn rp ki ag co pa me (nI sd) (nI sz) wa be pr dki dag dco dpa dme dso drs dwa dbe dpr nt nm (nI bo) (nI cr) (nI de) ns np tnt tnm tnb tnc tnd tns tnp pf ph pst kh kst os og oh cs mo le se pk pc lf ab cu cd) (some (.int rX9_stepOff_x))) := by
  refine M.of (L0 := [.ref 0, .int p]) (by decide +kernel) (Nat.le_of_ble_eq_true rfl) rfl ?_
  refine g_aload_n dX9_stepOff_0 rfl 1 rfl rfl ?_
  refine g_iload_n dX9_stepOff_1 rfl 2 rfl rfl ?_
  refine g_cVv (as := [.int p]) (st := []) dX9_stepOff_2 5 rfl kX9_117 ⟨Nat.le_of_ble_eq_true rfl, Nat.le_of_ble_eq_true rfl⟩ (MX9_isPerson (sz := sz) p) rfl rfl rfl rfl (Nat.le_of_ble_eq_true rfl) (Nat.le_refl _) (Nat.le_refl _) ?_
  refine g_if_ne dX9_stepOff_5 10 rfl 8 rfl (fun c => absurd (gB_0 hv) c) (fun _ => ?_)
  refine g_iconst (-1) dX9_stepOff_8 9 rfl (by decide) ?_
  refine g_ireturn dX9_stepOff_9 rfl rfl (Nat.le_refl _) (Nat.le_refl _) ?_
  have e : rX9_stepOff_x = (-1) := by rw [rX9_stepOff_x]
  rw [e]
  try dsimp only
  exact ⟨rfl, rfl⟩
def rX9_die (co : Int32 → Int32) (nt : Int32 → Int32) (nm : Int32) (ns : Int32) (np : Int32) (pst : Nat → gS) (p : Nat) (bo : Nat) (cr : Nat) (de : Nat) (pn : Nat) (pg : Nat → Nat) : Int32 × Nat × Nat × (Nat → Option Nat) × Nat × (Nat → gS) := (if (rX6_placeOf_29 co nm p bo cr de) = 3 then ((-2), bo, de, (shl pg), pn, pst) else (if (rX6_placeOf_29 co nm p bo cr de) = 4 then ((-2), bo, de, (shl pg), pn, pst) else ((rX6_placeOf_29 co nm p bo cr de), (rX6_bury_29 p bo de).1, (rX6_bury_29 p bo de).2, (shl (pgA pg pn)), kNx pn, (pstA pst pg pn (nt, nm, (nI bo), (nI cr), (nI de), ns, np)))))
set_option maxRecDepth 100000 in
set_option maxHeartbeats 4000000 in
theorem MX9_die {w : gW} {al : Bool} {tl rn ki ag co pa me dki dag dco dpa dme nt tnt os og cs mo le se ab : Int32 → Int32} {tn rp wa be pr dso drs dwa dbe dpr nm ns np tnm tnb tnc tnd tns tnp kh oh pk pc lf cu cd : Int32} {pst kst : Nat → gS} {sz bo cr de sd pn : Nat} {pg : Nat → Nat} (p : Nat) (hs : sz ≤ 9) (hbo : bo < 512) (hcr : cr < 512) (hde : de < 512) (hsd : sd < 512) (hpn : pn ≤ 8) (hpg : ∀ j, j < 8 → pg j < 8) (hp : p < 9) (hv : (rX9_isPerson (nI p) sz) = true)  : M w gT0 al mX9_die 0 0 (hC tl tn rn rp ki ag co pa me (nI sd) (nI sz) wa be pr dki dag dco dpa dme dso drs dwa dbe dpr nt nm (nI bo) (nI cr) (nI de) ns np tnt tnm tnb tnc tnd tns tnp (shl pg) (nI pn) pst kh kst os og oh cs mo le se pk pc lf ab cu cd) [.ref 0, .int (nI p)] (gEq (hC tl tn rn rp ki ag co pa me (nI sd) (nI sz) wa be pr dki dag dco dpa dme dso drs dwa dbe dpr nt nm (nI ((rX9_die co nt nm ns np pst p bo cr de pn pg).2.1)) (nI cr) (nI ((rX9_die co nt nm ns np pst p bo cr de pn pg).2.2.1)) ns np tnt tnm tnb tnc tnd tns tnp ((rX9_die co nt nm ns np pst p bo cr de pn pg).2.2.2.1) (nI ((rX9_die co nt nm ns np pst p bo cr de pn pg).2.2.2.2.1)) ((rX9_die co nt nm ns np pst p bo cr de pn pg).2.2.2.2.2) kh kst os og oh cs mo le se pk pc lf ab cu cd) (some (.int ((rX9_die co nt nm ns np pst p bo cr de pn pg).1)))) := by
  refine M.of (L0 := [.ref 0, .int (nI p), gF]) (by decide +kernel) (Nat.le_of_ble_eq_true rfl) rfl ?_
  refine g_aload_n dX9_die_0 rfl 1 rfl rfl ?_
  refine g_iload_n dX9_die_1 rfl 2 rfl rfl ?_
  refine g_cVv (as := [.int (nI p)]) (st := []) dX9_die_2 5 rfl kX9_117 ⟨Nat.le_of_ble_eq_true rfl, Nat.le_of_ble_eq_true rfl⟩ (MX9_isPerson (sz := sz) (nI p)) rfl rfl rfl rfl (Nat.le_of_ble_eq_true rfl) (Nat.le_refl _) (Nat.le_refl _) ?_
  refine g_if_ne dX9_die_5 10 rfl 8 rfl (fun _ => ?_) (fun c => absurd c (gB_1 hv))
  refine g_aload_n dX9_die_10 rfl 11 rfl rfl ?_
  refine g_get (v := .ref 29) dX9_die_11 14 rfl lX9_40 rfl rfl ?_
  refine g_iload_n dX9_die_14 rfl 15 rfl rfl ?_
  refine g_cVv (as := [.int (nI p)]) (st := []) dX9_die_15 18 rfl kX9_140 ⟨Nat.le_of_ble_eq_true rfl, Nat.le_of_ble_eq_true rfl⟩ (MX6_placeOf_29 (sz := sz) (bo := bo) (cr := cr) (de := de) (sd := sd) p (by omega) (by omega) (by omega) (by omega) (by omega)) rfl rfl rfl rfl (Nat.le_of_ble_eq_true rfl) (Nat.le_refl _) (Nat.le_refl _) ?_
  refine g_istore2 dX9_die_18 19 rfl (by decide) rfl ?_
  refine g_iload_n dX9_die_19 rfl 20 rfl rfl ?_
  refine g_iconst 3 dX9_die_20 21 rfl (by decide) ?_
  refine g_icmp_eq dX9_die_21 29 rfl 24 rfl (fun c1 => ?_) (fun c1 => ?_)
  · refine g_bipush (-2) dX9_die_29 31 rfl (by decide) ?_
    refine g_ireturn dX9_die_31 rfl rfl (Nat.le_refl _) (Nat.le_refl _) ?_
    have e : (rX9_die co nt nm ns np pst p bo cr de pn pg) = ((-2), bo, de, (shl pg), pn, pst) := by rw [rX9_die, if_pos c1]
    rw [e]
    try dsimp only
    exact ⟨rfl, rfl⟩
  · refine g_iload_n dX9_die_24 rfl 25 rfl rfl ?_
    refine g_iconst 4 dX9_die_25 26 rfl (by decide) ?_
    refine g_icmp_ne dX9_die_26 32 rfl 29 rfl (fun c2 => ?_) (fun c2 => ?_)
    · refine g_aload_n dX9_die_32 rfl 33 rfl rfl ?_
      refine g_get (v := .ref 35) dX9_die_33 36 rfl lX9_52 rfl rfl ?_
      refine g_aload_n dX9_die_36 rfl 37 rfl rfl ?_
      refine g_get (v := .ref 29) dX9_die_37 40 rfl lX9_40 rfl rfl ?_
      refine g_cV0 (as := [.ref 29]) (st := []) dX9_die_40 43 rfl kX9_164 ⟨Nat.le_of_ble_eq_true rfl, Nat.le_of_ble_eq_true rfl⟩ (MX5_add_35 (pg := pg) (pn := pn) hpn hpg) rfl rfl rfl rfl (Nat.le_of_ble_eq_true rfl) (Nat.le_refl _) (Nat.le_refl _) ?_
      refine g_aload_n dX9_die_43 rfl 44 rfl rfl ?_
      refine g_get (v := .ref 29) dX9_die_44 47 rfl lX9_40 rfl rfl ?_
      refine g_iload_n dX9_die_47 rfl 48 rfl rfl ?_
      refine g_cV0 (as := [.int (nI p)]) (st := []) dX9_die_48 51 rfl kX9_175 ⟨Nat.le_of_ble_eq_true rfl, Nat.le_of_ble_eq_true rfl⟩ (MX6_bury_29 (sz := sz) (bo := bo) (cr := cr) (de := de) (sd := sd) p (by omega) (by omega)) rfl rfl rfl rfl (Nat.le_of_ble_eq_true rfl) (Nat.le_refl _) (Nat.le_refl _) ?_
      refine g_iload_n dX9_die_51 rfl 52 rfl rfl ?_
      refine g_ireturn dX9_die_52 rfl rfl (Nat.le_refl _) (Nat.le_refl _) ?_
      have e : (rX9_die co nt nm ns np pst p bo cr de pn pg) = ((rX6_placeOf_29 co nm p bo cr de), (rX6_bury_29 p bo de).1, (rX6_bury_29 p bo de).2, (shl (pgA pg pn)), kNx pn, (pstA pst pg pn (nt, nm, (nI bo), (nI cr), (nI de), ns, np))) := by rw [rX9_die, if_neg c1, if_neg c2]
      rw [e]
      try dsimp only
      exact ⟨rfl, rfl⟩
    · refine g_bipush (-2) dX9_die_29 31 rfl (by decide) ?_
      refine g_ireturn dX9_die_31 rfl rfl (Nat.le_refl _) (Nat.le_refl _) ?_
      have e : (rX9_die co nt nm ns np pst p bo cr de pn pg) = ((-2), bo, de, (shl pg), pn, pst) := by rw [rX9_die, if_neg c1, if_pos c2]
      rw [e]
      try dsimp only
      exact ⟨rfl, rfl⟩
def rX9_die_x  : Int32 := (-1)
set_option maxRecDepth 100000 in
set_option maxHeartbeats 4000000 in
theorem MX9_die_x {w : gW} {al : Bool} {tl rn ki ag co pa me dki dag dco dpa dme nt tnt os og cs mo le se ab : Int32 → Int32} {tn rp wa be pr dso drs dwa dbe dpr nm ns np tnm tnb tnc tnd tns tnp ph kh oh pk pc lf cu cd : Int32} {pf : Nat → Option Nat} {pst kst : Nat → gS} {sz bo cr de sd : Nat} (p : Int32) (hs : sz ≤ 9) (hbo : bo < 512) (hcr : cr < 512) (hde : de < 512) (hsd : sd < 512) (hv : ¬ (rX9_isPerson p sz) = true)  : M w gT0 al mX9_die 0 0 (hC tl tn rn rp ki ag co pa me (nI sd) (nI sz) wa be pr dki dag dco dpa dme dso drs dwa dbe dpr nt nm (nI bo) (nI cr) (nI de) ns np tnt tnm tnb tnc tnd tns tnp pf ph pst kh kst os og oh cs mo le se pk pc lf ab cu cd) [.ref 0, .int p] (gEq (hC tl tn rn rp ki ag co pa me (nI sd) (nI sz) wa be pr dki dag dco dpa dme dso drs dwa dbe dpr nt nm (nI bo) (nI cr) (nI de) ns np tnt tnm tnb tnc tnd tns tnp pf ph pst kh kst os og oh cs mo le se pk pc lf ab cu cd) (some (.int rX9_die_x))) := by
  refine M.of (L0 := [.ref 0, .int p, gF]) (by decide +kernel) (Nat.le_of_ble_eq_true rfl) rfl ?_
  refine g_aload_n dX9_die_0 rfl 1 rfl rfl ?_
  refine g_iload_n dX9_die_1 rfl 2 rfl rfl ?_
  refine g_cVv (as := [.int p]) (st := []) dX9_die_2 5 rfl kX9_117 ⟨Nat.le_of_ble_eq_true rfl, Nat.le_of_ble_eq_true rfl⟩ (MX9_isPerson (sz := sz) p) rfl rfl rfl rfl (Nat.le_of_ble_eq_true rfl) (Nat.le_refl _) (Nat.le_refl _) ?_
  refine g_if_ne dX9_die_5 10 rfl 8 rfl (fun c => absurd (gB_0 hv) c) (fun _ => ?_)
  refine g_iconst (-1) dX9_die_8 9 rfl (by decide) ?_
  refine g_ireturn dX9_die_9 rfl rfl (Nat.le_refl _) (Nat.le_refl _) ?_
  have e : rX9_die_x = (-1) := by rw [rX9_die_x]
  rw [e]
  try dsimp only
  exact ⟨rfl, rfl⟩
def rX9_sail (ki : Int32 → Int32) (ag : Int32 → Int32) (me : Int32 → Int32) (wa : Int32) (be : Int32) (pr : Int32) (nt : Int32 → Int32) (nm : Int32) (ns : Int32) (np : Int32) (pst : Nat → gS) (sz : Nat) (bo : Nat) (cr : Nat) (de : Nat) (sd : Nat) (pn : Nat) (pg : Nat → Nat) : Int32 × (Int32 → Int32) × Nat × Nat × Int32 × Int32 × (Nat → Option Nat) × Nat × (Nat → gS) := (if (rX6_costOf_29 ki ag me wa be pr nt bo sz cr de sd) = (-4) then ((-2), nt, bo, cr, ns, np, (shl pg), pn, pst) else ((rX6_costOf_29 ki ag me wa be pr nt bo sz cr de sd), ((rX6_depart_29 ki nt ns np (rX6_costOf_29 ki ag me wa be pr nt bo sz cr de sd) sz bo cr).1), (rX6_depart_29 ki nt ns np (rX6_costOf_29 ki ag me wa be pr nt bo sz cr de sd) sz bo cr).2.1, (rX6_depart_29 ki nt ns np (rX6_costOf_29 ki ag me wa be pr nt bo sz cr de sd) sz bo cr).2.2.1, ((rX6_depart_29 ki nt ns np (rX6_costOf_29 ki ag me wa be pr nt bo sz cr de sd) sz bo cr).2.2.2.1), ((rX6_depart_29 ki nt ns np (rX6_costOf_29 ki ag me wa be pr nt bo sz cr de sd) sz bo cr).2.2.2.2), (shl (pgA pg pn)), kNx pn, (pstA pst pg pn (nt, nm, (nI bo), (nI cr), (nI de), ns, np))))
set_option maxRecDepth 100000 in
set_option maxHeartbeats 4000000 in
theorem MX9_sail {w : gW} {al : Bool} {tl rn ki ag co pa me dki dag dco dpa dme nt tnt os og cs mo le se ab : Int32 → Int32} {tn rp wa be pr dso drs dwa dbe dpr nm ns np tnm tnb tnc tnd tns tnp kh oh pk pc lf cu cd : Int32} {pst kst : Nat → gS} {sz bo cr de sd pn : Nat} {pg : Nat → Nat} (hs : sz ≤ 9) (hbo : bo < 512) (hcr : cr < 512) (hde : de < 512) (hsd : sd < 512) (hpn : pn ≤ 8) (hpg : ∀ j, j < 8 → pg j < 8)  : M w gT0 al mX9_sail 0 0 (hC tl tn rn rp ki ag co pa me (nI sd) (nI sz) wa be pr dki dag dco dpa dme dso drs dwa dbe dpr nt nm (nI bo) (nI cr) (nI de) ns np tnt tnm tnb tnc tnd tns tnp (shl pg) (nI pn) pst kh kst os og oh cs mo le se pk pc lf ab cu cd) [.ref 0] (gEq (hC tl tn rn rp ki ag co pa me (nI sd) (nI sz) wa be pr dki dag dco dpa dme dso drs dwa dbe dpr ((rX9_sail ki ag me wa be pr nt nm ns np pst sz bo cr de sd pn pg).2.1) nm (nI ((rX9_sail ki ag me wa be pr nt nm ns np pst sz bo cr de sd pn pg).2.2.1)) (nI ((rX9_sail ki ag me wa be pr nt nm ns np pst sz bo cr de sd pn pg).2.2.2.1)) (nI de) ((rX9_sail ki ag me wa be pr nt nm ns np pst sz bo cr de sd pn pg).2.2.2.2.1) ((rX9_sail ki ag me wa be pr nt nm ns np pst sz bo cr de sd pn pg).2.2.2.2.2.1) tnt tnm tnb tnc tnd tns tnp ((rX9_sail ki ag me wa be pr nt nm ns np pst sz bo cr de sd pn pg).2.2.2.2.2.2.1) (nI ((rX9_sail ki ag me wa be pr nt nm ns np pst sz bo cr de sd pn pg).2.2.2.2.2.2.2.1)) ((rX9_sail ki ag me wa be pr nt nm ns np pst sz bo cr de sd pn pg).2.2.2.2.2.2.2.2) kh kst os og oh cs mo le se pk pc lf ab cu cd) (some (.int ((rX9_sail ki ag me wa be pr nt nm ns np pst sz bo cr de sd pn pg).1)))) := by
  refine M.of (L0 := [.ref 0, gF]) (by decide +kernel) (Nat.le_of_ble_eq_true rfl) rfl ?_
  refine g_aload_n dX9_sail_0 rfl 1 rfl rfl ?_
  refine g_get (v := .ref 29) dX9_sail_1 4 rfl lX9_40 rfl rfl ?_
  refine g_aload_n dX9_sail_4 rfl 5 rfl rfl ?_
  refine g_get (v := .ref 29) dX9_sail_5 8 rfl lX9_40 rfl rfl ?_
  refine g_get (v := .int (nI bo)) dX9_sail_8 11 rfl lX9_146 rfl rfl ?_
  refine g_cVv (as := [.int (nI bo)]) (st := []) dX9_sail_11 14 rfl kX9_155 ⟨Nat.le_of_ble_eq_true rfl, Nat.le_of_ble_eq_true rfl⟩ (MX6_costOf_29 (sz := sz) (bo := bo) (cr := cr) (de := de) (sd := sd) bo (by omega) (by omega) (by omega)) rfl rfl rfl rfl (Nat.le_of_ble_eq_true rfl) (Nat.le_refl _) (Nat.le_refl _) ?_
  refine g_istore1 dX9_sail_14 15 rfl (by decide) rfl ?_
  refine g_iload_n dX9_sail_15 rfl 16 rfl rfl ?_
  refine g_bipush (-4) dX9_sail_16 18 rfl (by decide) ?_
  refine g_icmp_ne dX9_sail_18 24 rfl 21 rfl (fun c1 => ?_) (fun c1 => ?_)
  · refine g_aload_n dX9_sail_24 rfl 25 rfl rfl ?_
    refine g_get (v := .ref 35) dX9_sail_25 28 rfl lX9_52 rfl rfl ?_
    refine g_aload_n dX9_sail_28 rfl 29 rfl rfl ?_
    refine g_get (v := .ref 29) dX9_sail_29 32 rfl lX9_40 rfl rfl ?_
    refine g_cV0 (as := [.ref 29]) (st := []) dX9_sail_32 35 rfl kX9_164 ⟨Nat.le_of_ble_eq_true rfl, Nat.le_of_ble_eq_true rfl⟩ (MX5_add_35 (pg := pg) (pn := pn) hpn hpg) rfl rfl rfl rfl (Nat.le_of_ble_eq_true rfl) (Nat.le_refl _) (Nat.le_refl _) ?_
    refine g_aload_n dX9_sail_35 rfl 36 rfl rfl ?_
    refine g_get (v := .ref 29) dX9_sail_36 39 rfl lX9_40 rfl rfl ?_
    refine g_iload_n dX9_sail_39 rfl 40 rfl rfl ?_
    refine g_cV0 (as := [.int (rX6_costOf_29 ki ag me wa be pr nt bo sz cr de sd)]) (st := []) dX9_sail_40 43 rfl kX9_178 ⟨Nat.le_of_ble_eq_true rfl, Nat.le_of_ble_eq_true rfl⟩ (MX6_depart_29 (sz := sz) (bo := bo) (cr := cr) (de := de) (sd := sd) (rX6_costOf_29 ki ag me wa be pr nt bo sz cr de sd) (by omega) (by omega)) rfl rfl rfl rfl (Nat.le_of_ble_eq_true rfl) (Nat.le_refl _) (Nat.le_refl _) ?_
    refine g_iload_n dX9_sail_43 rfl 44 rfl rfl ?_
    refine g_ireturn dX9_sail_44 rfl rfl (Nat.le_refl _) (Nat.le_refl _) ?_
    have e : (rX9_sail ki ag me wa be pr nt nm ns np pst sz bo cr de sd pn pg) = ((rX6_costOf_29 ki ag me wa be pr nt bo sz cr de sd), ((rX6_depart_29 ki nt ns np (rX6_costOf_29 ki ag me wa be pr nt bo sz cr de sd) sz bo cr).1), (rX6_depart_29 ki nt ns np (rX6_costOf_29 ki ag me wa be pr nt bo sz cr de sd) sz bo cr).2.1, (rX6_depart_29 ki nt ns np (rX6_costOf_29 ki ag me wa be pr nt bo sz cr de sd) sz bo cr).2.2.1, ((rX6_depart_29 ki nt ns np (rX6_costOf_29 ki ag me wa be pr nt bo sz cr de sd) sz bo cr).2.2.2.1), ((rX6_depart_29 ki nt ns np (rX6_costOf_29 ki ag me wa be pr nt bo sz cr de sd) sz bo cr).2.2.2.2), (shl (pgA pg pn)), kNx pn, (pstA pst pg pn (nt, nm, (nI bo), (nI cr), (nI de), ns, np))) := by rw [rX9_sail, if_neg c1]
    rw [e]
    try dsimp only
    exact ⟨rfl, rfl⟩
  · refine g_bipush (-2) dX9_sail_21 23 rfl (by decide) ?_
    refine g_ireturn dX9_sail_23 rfl rfl (Nat.le_refl _) (Nat.le_refl _) ?_
    have e : (rX9_sail ki ag me wa be pr nt nm ns np pst sz bo cr de sd pn pg) = ((-2), nt, bo, cr, ns, np, (shl pg), pn, pst) := by rw [rX9_sail, if_pos c1]
    rw [e]
    try dsimp only
    exact ⟨rfl, rfl⟩
