/-! the class: AgesFerry, tell -/
def rX9_tell (ag : Int32 → Int32) (os : Int32 → Int32) (og : Int32 → Int32) (bits : Nat) (s : Int32) (sz : Nat) (hd : Nat) : Int32 × (Int32 → Int32) × (Int32 → Int32) × Nat := (if s < 0 then ((-1), os, og, hd) else (if s ≤ 999 then ((nI ((rX8_add os og (nI bits) (s - (rX2_agesOf ag bits sz)) hd).2.2)), ((rX8_add os og (nI bits) (s - (rX2_agesOf ag bits sz)) hd).1), ((rX8_add os og (nI bits) (s - (rX2_agesOf ag bits sz)) hd).2.1), (rX8_add os og (nI bits) (s - (rX2_agesOf ag bits sz)) hd).2.2) else ((-1), os, og, hd)))
set_option maxRecDepth 100000 in
set_option maxHeartbeats 4000000 in
theorem MX9_tell {w : gW} {al : Bool} {tl rn ki ag co pa me dki dag dco dpa dme nt tnt os og cs mo le se ab : Int32 → Int32} {tn rp so wa be pr dso drs dwa dbe dpr nm nb nc nd ns np tnm tnb tnc tnd tns tnp ph kh pk pc lf cu cd : Int32} {pf : Nat → Option Nat} {pst kst : Nat → gS} {sz hd : Nat} (bits : Nat) (s : Int32) (hs : sz ≤ 9) (hhd : hd < 5) (hb : bits < 512) (hb1 : ¬ (nI bits) < 1) (hw : (rX9_within (nI bits) (nI (2 ^ sz - 1))) = true)  : M w gT0 al mX9_tell 0 0 (hC tl tn rn rp ki ag co pa me so (nI sz) wa be pr dki dag dco dpa dme dso drs dwa dbe dpr nt nm nb nc nd ns np tnt tnm tnb tnc tnd tns tnp pf ph pst kh kst os og (nI hd) cs mo le se pk pc lf ab cu cd) [.ref 0, .int (nI bits), .int s] (gEq (hC tl tn rn rp ki ag co pa me so (nI sz) wa be pr dki dag dco dpa dme dso drs dwa dbe dpr nt nm nb nc nd ns np tnt tnm tnb tnc tnd tns tnp pf ph pst kh kst ((rX9_tell ag os og bits s sz hd).2.1) ((rX9_tell ag os og bits s sz hd).2.2.1) (nI ((rX9_tell ag os og bits s sz hd).2.2.2)) cs mo le se pk pc lf ab cu cd) (some (.int ((rX9_tell ag os og bits s sz hd).1)))) := by
  refine M.of (L0 := [.ref 0, .int (nI bits), .int s]) (by decide +kernel) (Nat.le_of_ble_eq_true rfl) rfl ?_
  refine g_iload_n dX9_tell_0 rfl 1 rfl rfl ?_
  refine g_iconst 1 dX9_tell_1 2 rfl (by decide) ?_
  refine g_icmp_lt dX9_tell_2 30 rfl 5 rfl (fun c => absurd c hb1) (fun _ => ?_)
  refine g_iload_n dX9_tell_5 rfl 6 rfl rfl ?_
  refine g_aload_n dX9_tell_6 rfl 7 rfl rfl ?_
  refine g_get (v := .ref 7) dX9_tell_7 10 rfl lX9_28 rfl rfl ?_
  refine g_cVv (as := []) (st := [.int (nI bits)]) dX9_tell_10 13 rfl kX9_219 ⟨Nat.le_of_ble_eq_true rfl, Nat.le_of_ble_eq_true rfl⟩ (MX2_everyone' (sz := sz) (by omega)) rfl rfl rfl rfl (Nat.le_of_ble_eq_true rfl) (Nat.le_refl _) (Nat.le_refl _) ?_
  refine g_cSv (as := [.int (nI bits), .int (nI (2 ^ sz - 1))]) (st := []) dX9_tell_13 16 rfl kX9_222 ⟨Nat.le_of_ble_eq_true rfl, Nat.le_of_ble_eq_true rfl⟩ (MX9_within (nI bits) (nI (2 ^ sz - 1))) rfl (Nat.le_of_ble_eq_true rfl) (Nat.le_refl _) (Nat.le_refl _) ?_
  refine g_if_eq dX9_tell_16 30 rfl 19 rfl (fun c => absurd c (gB_1 hw)) (fun _ => ?_)
  refine g_iload_n dX9_tell_19 rfl 20 rfl rfl ?_
  refine g_if_lt dX9_tell_20 30 rfl 23 rfl (fun c1 => ?_) (fun c1 => ?_)
  · refine g_iconst (-1) dX9_tell_30 31 rfl (by decide) ?_
    refine g_ireturn dX9_tell_31 rfl rfl (Nat.le_refl _) (Nat.le_refl _) ?_
    have e : (rX9_tell ag os og bits s sz hd) = ((-1), os, og, hd) := by rw [rX9_tell, if_pos c1]
    rw [e]
    try dsimp only
    exact ⟨rfl, rfl⟩
  · refine g_iload_n dX9_tell_23 rfl 24 rfl rfl ?_
    refine g_sipush 999 dX9_tell_24 27 rfl (by decide) ?_
    refine g_icmp_le dX9_tell_27 32 rfl 30 rfl (fun c2 => ?_) (fun c2 => ?_)
    · refine g_aload_n dX9_tell_32 rfl 33 rfl rfl ?_
      refine g_get (v := .ref 69) dX9_tell_33 36 rfl lX9_62 rfl rfl ?_
      refine g_get (v := .int (nI hd)) dX9_tell_36 39 rfl lX9_225 rfl rfl ?_
      refine g_iconst 5 dX9_tell_39 40 rfl (by decide) ?_
      refine g_icmp_lt dX9_tell_40 46 rfl 43 rfl (fun _ => ?_) (fun c => absurd (nI_lt (b := 5) (by omega) (by omega)) c)
      refine g_aload_n dX9_tell_46 rfl 47 rfl rfl ?_
      refine g_get (v := .ref 69) dX9_tell_47 50 rfl lX9_62 rfl rfl ?_
      refine g_iload_n dX9_tell_50 rfl 51 rfl rfl ?_
      refine g_iload_n dX9_tell_51 rfl 52 rfl rfl ?_
      refine g_aload_n dX9_tell_52 rfl 53 rfl rfl ?_
      refine g_get (v := .ref 7) dX9_tell_53 56 rfl lX9_28 rfl rfl ?_
      refine g_iload_n dX9_tell_56 rfl 57 rfl rfl ?_
      refine g_cVv (as := [.int (nI bits)]) (st := [.int s, .int (nI bits), .ref 69]) dX9_tell_57 60 rfl kX9_226 ⟨Nat.le_of_ble_eq_true rfl, Nat.le_of_ble_eq_true rfl⟩ (MX2_agesOf (sz := sz) bits (by omega) (by omega)) rfl rfl rfl rfl (Nat.le_of_ble_eq_true rfl) (Nat.le_refl _) (Nat.le_refl _) ?_
      refine g_isub dX9_tell_60 61 rfl ?_
      refine g_cV0 (as := [.int (nI bits), .int (s - (rX2_agesOf ag bits sz))]) (st := []) dX9_tell_61 64 rfl kX9_229 ⟨Nat.le_of_ble_eq_true rfl, Nat.le_of_ble_eq_true rfl⟩ (MX8_add (hd := hd) (nI bits) (s - (rX2_agesOf ag bits sz)) (by omega)) rfl rfl rfl rfl (Nat.le_of_ble_eq_true rfl) (Nat.le_refl _) (Nat.le_refl _) ?_
      refine g_aload_n dX9_tell_64 rfl 65 rfl rfl ?_
      refine g_get (v := .ref 69) dX9_tell_65 68 rfl lX9_62 rfl rfl ?_
      refine g_get (v := .int (nI ((rX8_add os og (nI bits) (s - (rX2_agesOf ag bits sz)) hd).2.2))) dX9_tell_68 71 rfl lX9_225 rfl rfl ?_
      refine g_ireturn dX9_tell_71 rfl rfl (Nat.le_refl _) (Nat.le_refl _) ?_
      have e : (rX9_tell ag os og bits s sz hd) = ((nI ((rX8_add os og (nI bits) (s - (rX2_agesOf ag bits sz)) hd).2.2)), ((rX8_add os og (nI bits) (s - (rX2_agesOf ag bits sz)) hd).1), ((rX8_add os og (nI bits) (s - (rX2_agesOf ag bits sz)) hd).2.1), (rX8_add os og (nI bits) (s - (rX2_agesOf ag bits sz)) hd).2.2) := by rw [rX9_tell, if_neg c1, if_pos c2]
      rw [e]
      try dsimp only
      exact ⟨rfl, rfl⟩
    · refine g_iconst (-1) dX9_tell_30 31 rfl (by decide) ?_
      refine g_ireturn dX9_tell_31 rfl rfl (Nat.le_refl _) (Nat.le_refl _) ?_
      have e : (rX9_tell ag os og bits s sz hd) = ((-1), os, og, hd) := by rw [rX9_tell, if_neg c1, if_neg c2]
      rw [e]
      try dsimp only
      exact ⟨rfl, rfl⟩
def rX9_tell_5 (s : Int32) : Int32 := (if s < 0 then (-1) else (if s ≤ 999 then (-3) else (-1)))
set_option maxRecDepth 100000 in
set_option maxHeartbeats 4000000 in
theorem MX9_tell_5 {w : gW} {al : Bool} {tl rn ki ag co pa me dki dag dco dpa dme nt tnt os og cs mo le se ab : Int32 → Int32} {tn rp so wa be pr dso drs dwa dbe dpr nm nb nc nd ns np tnm tnb tnc tnd tns tnp ph kh pk pc lf cu cd : Int32} {pf : Nat → Option Nat} {pst kst : Nat → gS} {sz : Nat} (bits : Nat) (s : Int32) (hs : sz ≤ 9) (hb : bits < 512) (hb1 : ¬ (nI bits) < 1) (hw : (rX9_within (nI bits) (nI (2 ^ sz - 1))) = true)  : M w gT0 al mX9_tell 0 0 (hC tl tn rn rp ki ag co pa me so (nI sz) wa be pr dki dag dco dpa dme dso drs dwa dbe dpr nt nm nb nc nd ns np tnt tnm tnb tnc tnd tns tnp pf ph pst kh kst os og 5 cs mo le se pk pc lf ab cu cd) [.ref 0, .int (nI bits), .int s] (gEq (hC tl tn rn rp ki ag co pa me so (nI sz) wa be pr dki dag dco dpa dme dso drs dwa dbe dpr nt nm nb nc nd ns np tnt tnm tnb tnc tnd tns tnp pf ph pst kh kst os og 5 cs mo le se pk pc lf ab cu cd) (some (.int (rX9_tell_5 s)))) := by
  refine M.of (L0 := [.ref 0, .int (nI bits), .int s]) (by decide +kernel) (Nat.le_of_ble_eq_true rfl) rfl ?_
  refine g_iload_n dX9_tell_0 rfl 1 rfl rfl ?_
  refine g_iconst 1 dX9_tell_1 2 rfl (by decide) ?_
  refine g_icmp_lt dX9_tell_2 30 rfl 5 rfl (fun c => absurd c hb1) (fun _ => ?_)
  refine g_iload_n dX9_tell_5 rfl 6 rfl rfl ?_
  refine g_aload_n dX9_tell_6 rfl 7 rfl rfl ?_
  refine g_get (v := .ref 7) dX9_tell_7 10 rfl lX9_28 rfl rfl ?_
  refine g_cVv (as := []) (st := [.int (nI bits)]) dX9_tell_10 13 rfl kX9_219 ⟨Nat.le_of_ble_eq_true rfl, Nat.le_of_ble_eq_true rfl⟩ (MX2_everyone' (sz := sz) (by omega)) rfl rfl rfl rfl (Nat.le_of_ble_eq_true rfl) (Nat.le_refl _) (Nat.le_refl _) ?_
  refine g_cSv (as := [.int (nI bits), .int (nI (2 ^ sz - 1))]) (st := []) dX9_tell_13 16 rfl kX9_222 ⟨Nat.le_of_ble_eq_true rfl, Nat.le_of_ble_eq_true rfl⟩ (MX9_within (nI bits) (nI (2 ^ sz - 1))) rfl (Nat.le_of_ble_eq_true rfl) (Nat.le_refl _) (Nat.le_refl _) ?_
  refine g_if_eq dX9_tell_16 30 rfl 19 rfl (fun c => absurd c (gB_1 hw)) (fun _ => ?_)
  refine g_iload_n dX9_tell_19 rfl 20 rfl rfl ?_
  refine g_if_lt dX9_tell_20 30 rfl 23 rfl (fun c1 => ?_) (fun c1 => ?_)
  · refine g_iconst (-1) dX9_tell_30 31 rfl (by decide) ?_
    refine g_ireturn dX9_tell_31 rfl rfl (Nat.le_refl _) (Nat.le_refl _) ?_
    have e : (rX9_tell_5 s) = (-1) := by rw [rX9_tell_5, if_pos c1]
    rw [e]
    try dsimp only
    exact ⟨rfl, rfl⟩
  · refine g_iload_n dX9_tell_23 rfl 24 rfl rfl ?_
    refine g_sipush 999 dX9_tell_24 27 rfl (by decide) ?_
    refine g_icmp_le dX9_tell_27 32 rfl 30 rfl (fun c2 => ?_) (fun c2 => ?_)
    · refine g_aload_n dX9_tell_32 rfl 33 rfl rfl ?_
      refine g_get (v := .ref 69) dX9_tell_33 36 rfl lX9_62 rfl rfl ?_
      refine g_get (v := .int 5) dX9_tell_36 39 rfl lX9_225 rfl rfl ?_
      refine g_iconst 5 dX9_tell_39 40 rfl (by decide) ?_
      refine g_icmp_lt dX9_tell_40 46 rfl 43 rfl (fun c => absurd c (by decide)) (fun _ => ?_)
      refine g_bipush (-3) dX9_tell_43 45 rfl (by decide) ?_
      refine g_ireturn dX9_tell_45 rfl rfl (Nat.le_refl _) (Nat.le_refl _) ?_
      have e : (rX9_tell_5 s) = (-3) := by rw [rX9_tell_5, if_neg c1, if_pos c2]
      rw [e]
      try dsimp only
      exact ⟨rfl, rfl⟩
    · refine g_iconst (-1) dX9_tell_30 31 rfl (by decide) ?_
      refine g_ireturn dX9_tell_31 rfl rfl (Nat.le_refl _) (Nat.le_refl _) ?_
      have e : (rX9_tell_5 s) = (-1) := by rw [rX9_tell_5, if_neg c1, if_neg c2]
      rw [e]
      try dsimp only
      exact ⟨rfl, rfl⟩
def rX9_tell_a  : Int32 := (-1)
set_option maxRecDepth 100000 in
set_option maxHeartbeats 4000000 in
theorem MX9_tell_a {w : gW} {al : Bool} {tl rn ki ag co pa me dki dag dco dpa dme nt tnt os og cs mo le se ab : Int32 → Int32} {tn rp so wa be pr dso drs dwa dbe dpr nm nb nc nd ns np tnm tnb tnc tnd tns tnp ph kh oh pk pc lf cu cd : Int32} {pf : Nat → Option Nat} {pst kst : Nat → gS} {sz : Nat} (bits : Int32) (s : Int32) (hs : sz ≤ 9) (hb1 : bits < 1)  : M w gT0 al mX9_tell 0 0 (hC tl tn rn rp ki ag co pa me so (nI sz) wa be pr dki dag dco dpa dme dso drs dwa dbe dpr nt nm nb nc nd ns np tnt tnm tnb tnc tnd tns tnp pf ph pst kh kst os og oh cs mo le se pk pc lf ab cu cd) [.ref 0, .int bits, .int s] (gEq (hC tl tn rn rp ki ag co pa me so (nI sz) wa be pr dki dag dco dpa dme dso drs dwa dbe dpr nt nm nb nc nd ns np tnt tnm tnb tnc tnd tns tnp pf ph pst kh kst os og oh cs mo le se pk pc lf ab cu cd) (some (.int rX9_tell_a))) := by
  refine M.of (L0 := [.ref 0, .int bits, .int s]) (by decide +kernel) (Nat.le_of_ble_eq_true rfl) rfl ?_
  refine g_iload_n dX9_tell_0 rfl 1 rfl rfl ?_
  refine g_iconst 1 dX9_tell_1 2 rfl (by decide) ?_
  refine g_icmp_lt dX9_tell_2 30 rfl 5 rfl (fun _ => ?_) (fun c => absurd hb1 c)
  refine g_iconst (-1) dX9_tell_30 31 rfl (by decide) ?_
  refine g_ireturn dX9_tell_31 rfl rfl (Nat.le_refl _) (Nat.le_refl _) ?_
  have e : rX9_tell_a = (-1) := by rw [rX9_tell_a]
  rw [e]
  try dsimp only
  exact ⟨rfl, rfl⟩
def rX9_tell_b  : Int32 := (-1)
set_option maxRecDepth 100000 in
set_option maxHeartbeats 4000000 in
theorem MX9_tell_b {w : gW} {al : Bool} {tl rn ki ag co pa me dki dag dco dpa dme nt tnt os og cs mo le se ab : Int32 → Int32} {tn rp so wa be pr dso drs dwa dbe dpr nm nb nc nd ns np tnm tnb tnc tnd tns tnp ph kh oh pk pc lf cu cd : Int32} {pf : Nat → Option Nat} {pst kst : Nat → gS} {sz : Nat} (bits : Int32) (s : Int32) (hs : sz ≤ 9) (hb1 : ¬ bits < 1) (hw : ¬ (rX9_within bits (nI (2 ^ sz - 1))) = true)  : M w gT0 al mX9_tell 0 0 (hC tl tn rn rp ki ag co pa me so (nI sz) wa be pr dki dag dco dpa dme dso drs dwa dbe dpr nt nm nb nc nd ns np tnt tnm tnb tnc tnd tns tnp pf ph pst kh kst os og oh cs mo le se pk pc lf ab cu cd) [.ref 0, .int bits, .int s] (gEq (hC tl tn rn rp ki ag co pa me so (nI sz) wa be pr dki dag dco dpa dme dso drs dwa dbe dpr nt nm nb nc nd ns np tnt tnm tnb tnc tnd tns tnp pf ph pst kh kst os og oh cs mo le se pk pc lf ab cu cd) (some (.int rX9_tell_b))) := by
  refine M.of (L0 := [.ref 0, .int bits, .int s]) (by decide +kernel) (Nat.le_of_ble_eq_true rfl) rfl ?_
  refine g_iload_n dX9_tell_0 rfl 1 rfl rfl ?_
  refine g_iconst 1 dX9_tell_1 2 rfl (by decide) ?_
  refine g_icmp_lt dX9_tell_2 30 rfl 5 rfl (fun c => absurd c hb1) (fun _ => ?_)
  refine g_iload_n dX9_tell_5 rfl 6 rfl rfl ?_
  refine g_aload_n dX9_tell_6 rfl 7 rfl rfl ?_
  refine g_get (v := .ref 7) dX9_tell_7 10 rfl lX9_28 rfl rfl ?_
  refine g_cVv (as := []) (st := [.int bits]) dX9_tell_10 13 rfl kX9_219 ⟨Nat.le_of_ble_eq_true rfl, Nat.le_of_ble_eq_true rfl⟩ (MX2_everyone' (sz := sz) (by omega)) rfl rfl rfl rfl (Nat.le_of_ble_eq_true rfl) (Nat.le_refl _) (Nat.le_refl _) ?_
  refine g_cSv (as := [.int bits, .int (nI (2 ^ sz - 1))]) (st := []) dX9_tell_13 16 rfl kX9_222 ⟨Nat.le_of_ble_eq_true rfl, Nat.le_of_ble_eq_true rfl⟩ (MX9_within bits (nI (2 ^ sz - 1))) rfl (Nat.le_of_ble_eq_true rfl) (Nat.le_refl _) (Nat.le_refl _) ?_
  refine g_if_eq dX9_tell_16 30 rfl 19 rfl (fun _ => ?_) (fun c => absurd (gB_0 hw) c)
  refine g_iconst (-1) dX9_tell_30 31 rfl (by decide) ?_
  refine g_ireturn dX9_tell_31 rfl rfl (Nat.le_refl _) (Nat.le_refl _) ?_
  have e : rX9_tell_b = (-1) := by rw [rX9_tell_b]
  rw [e]
  try dsimp only
  exact ⟨rfl, rfl⟩
