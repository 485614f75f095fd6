/-! the class: Chance -/
def fX0_power_5 (bs : Int32) : Nat → (Int64) → (Int64)
  | _, u0 => (u0 * bs.toInt64)
set_option maxRecDepth 100000 in
set_option maxHeartbeats 4000000 in
theorem LX0_power_5 {w : gW} {al : Bool} {h : gH} {n : Nat} {P : gP}  {bs : Int32} {tm : Nat} (htm : tm < 1000)  : ∀ (d i : Nat) (u0 : Int64), i + d = tm → G w gT0 al n mX0_power 0 0 P 0 0 h 22 [.int bs, .int (nI tm), .long (gLp (fX0_power_5 bs) d i u0), gF, .int (nI tm)] [] → G w gT0 al n mX0_power 0 0 P 0 0 h 5 [.int bs, .int (nI tm), .long u0, gF, .int (nI i)] [] := by
  intro d
  induction d with
  | zero =>
    intro i u0 hi k
    have hN : i = tm := by omega
    rw [hN]
    rw [hN] at k
    refine g_iload dX0_power_5 7 rfl rfl ?_
    refine g_iload_n dX0_power_7 rfl 8 rfl rfl ?_
    refine g_icmp_ge dX0_power_8 22 rfl 11 rfl (fun _ => ?_) (fun c => absurd (nI_le (Nat.le_refl _) (by omega)) c)
    exact k
  | succ d ih =>
    intro i u0 hi k
    refine g_iload dX0_power_5 7 rfl rfl ?_
    refine g_iload_n dX0_power_7 rfl 8 rfl rfl ?_
    refine g_icmp_ge dX0_power_8 22 rfl 11 rfl (fun c => absurd c (nI_ge (by omega) (by omega))) (fun _ => ?_)
    refine g_lload_n dX0_power_11 rfl 12 rfl rfl ?_
    refine g_iload_n dX0_power_12 rfl 13 rfl rfl ?_
    refine g_i2l dX0_power_13 14 rfl ?_
    refine g_lmul dX0_power_14 15 rfl ?_
    refine g_lstore2 dX0_power_15 16 rfl (by decide) rfl ?_
    refine g_iinc4 dX0_power_16 19 rfl 1 (by decide) (nI (i + 1)) (nI_add _ 1) (by decide) rfl ?_
    refine g_goto dX0_power_19 5 rfl ?_
    have e : (fX0_power_5 bs) i u0 = (u0 * bs.toInt64) := by rw [fX0_power_5]
    refine ih (i + 1) (u0 * bs.toInt64) (by omega) ?_
    rw [← e]
    exact k
def rX0_power (bs : Int32) (tm : Nat) : Int64 := (gLp (fX0_power_5 bs) tm 0 1)
set_option maxRecDepth 100000 in
set_option maxHeartbeats 4000000 in
theorem MX0_power {w : gW} {al : Bool} {h : gH}  (bs : Int32) (tm : Nat) (htm : tm < 1000)  : M w gT0 al mX0_power 0 0 h [.int bs, .int (nI tm)] (gEq h (some (.long (rX0_power bs tm)))) := by
  refine M.of (L0 := [.int bs, .int (nI tm), gF, gF, gF]) (by decide +kernel) (Nat.le_of_ble_eq_true rfl) rfl ?_
  refine g_lconst 1 dX0_power_0 1 rfl (by decide) ?_
  refine g_lstore2 dX0_power_1 2 rfl (by decide) rfl ?_
  refine g_iconst 0 dX0_power_2 3 rfl (by decide) ?_
  refine g_istore4 dX0_power_3 5 rfl (by decide) rfl ?_
  refine LX0_power_5 (tm := tm) (by omega) tm 0 1 (by omega) ?_
  refine g_lload_n dX0_power_22 rfl 23 rfl rfl ?_
  refine g_lreturn dX0_power_23 rfl (Nat.le_refl _) (Nat.le_refl _) ?_
  have e : (rX0_power bs tm) = (gLp (fX0_power_5 bs) tm 0 1) := by rw [rX0_power]
  rw [e]
  exact ⟨rfl, rfl⟩
def fX0_commonDivisor_9  : Nat → (Int64 × Int64) → Bool × (Int64 × Int64)
  | _, (u0, u1) => (if (lg_cmp u1 0) ≤ 0 then (true, (u0, u1)) else (false, (u1, (u0 - u0 / u1 * u1))))
set_option maxRecDepth 100000 in
set_option maxHeartbeats 4000000 in
theorem LX0_commonDivisor_9 {w : gW} {al : Bool} {h : gH} {n : Nat} {P : gP}  {wl : Int64} {aw : Int64}  : ∀ (d i : Nat) (u0 : Int64) (u1 : Int64), i + d = 100 → G w gT0 al n mX0_commonDivisor 0 0 P 0 0 h 44 [.long wl, gF, .long aw, gF, .long ((gWh fX0_commonDivisor_9 d i (u0, u1)).1), gF, .long ((gWh fX0_commonDivisor_9 d i (u0, u1)).2), gF, gF, gF, gF] [] → G w gT0 al n mX0_commonDivisor 0 0 P 0 0 h 9 [.long wl, gF, .long aw, gF, .long u0, gF, .long u1, gF, .int (nI i), gF, gF] [] := by
  intro d
  induction d with
  | zero =>
    intro i u0 u1 hi k
    have hN : i = 100 := by omega
    rw [hN]
    rw [hN] at k
    refine g_iload dX0_commonDivisor_9 11 rfl rfl ?_
    refine g_bipush 100 dX0_commonDivisor_11 13 rfl (by decide) ?_
    refine g_icmp_ge dX0_commonDivisor_13 44 rfl 16 rfl (fun _ => ?_) (fun c => absurd (nI_le (a := 100) (b := 100) (by omega) (by omega)) c)
    refine g_fgt (L' := [.long wl, gF, .long aw, gF, .long u0, gF, .long u1, gF, gF, gF, gF]) ⟨Or.inl rfl, Or.inl rfl, Or.inl rfl, Or.inl rfl, Or.inl rfl, Or.inl rfl, Or.inl rfl, Or.inl rfl, Or.inr rfl, Or.inl rfl, Or.inl rfl, trivial⟩ ?_
    exact k
  | succ d ih =>
    intro i u0 u1 hi k
    refine g_iload dX0_commonDivisor_9 11 rfl rfl ?_
    refine g_bipush 100 dX0_commonDivisor_11 13 rfl (by decide) ?_
    refine g_icmp_ge dX0_commonDivisor_13 44 rfl 16 rfl (fun c => absurd c (nI_ge (a := i) (b := 100) (by omega) (by omega))) (fun _ => ?_)
    refine g_lload dX0_commonDivisor_16 18 rfl rfl ?_
    refine g_lconst 0 dX0_commonDivisor_18 19 rfl (by decide) ?_
    refine g_lcmp dX0_commonDivisor_19 20 rfl ?_
    refine g_if_le dX0_commonDivisor_20 44 rfl 23 rfl (fun c1 => ?_) (fun c1 => ?_)
    · refine g_fgt (L' := [.long wl, gF, .long aw, gF, .long u0, gF, .long u1, gF, gF, gF, gF]) ⟨Or.inl rfl, Or.inl rfl, Or.inl rfl, Or.inl rfl, Or.inl rfl, Or.inl rfl, Or.inl rfl, Or.inl rfl, Or.inr rfl, Or.inl rfl, Or.inl rfl, trivial⟩ ?_
      have e : fX0_commonDivisor_9 i (u0, u1) = (true, (u0, u1)) := by rw [fX0_commonDivisor_9, if_pos c1]
      rw [gWh_t e] at k
      exact k
    · refine g_lload dX0_commonDivisor_23 25 rfl rfl ?_
      refine g_lload dX0_commonDivisor_25 27 rfl rfl ?_
      refine g_lrem dX0_commonDivisor_27 28 rfl (fun z => c1 (by rw [z]; decide)) ?_
      refine g_lstore9 dX0_commonDivisor_28 30 rfl (by decide) rfl ?_
      refine g_lload dX0_commonDivisor_30 32 rfl rfl ?_
      refine g_lstore4 dX0_commonDivisor_32 34 rfl (by decide) rfl ?_
      refine g_lload dX0_commonDivisor_34 36 rfl rfl ?_
      refine g_lstore6 dX0_commonDivisor_36 38 rfl (by decide) rfl ?_
      refine g_iinc8 dX0_commonDivisor_38 41 rfl 1 (by decide) (nI (i + 1)) (nI_add _ 1) (by decide) rfl ?_
      refine g_goto dX0_commonDivisor_41 9 rfl ?_
      refine g_fgt (L' := [.long wl, gF, .long aw, gF, .long u1, gF, .long (u0 - u0 / u1 * u1), gF, .int (nI (i + 1)), gF, gF]) ⟨Or.inl rfl, Or.inl rfl, Or.inl rfl, Or.inl rfl, Or.inl rfl, Or.inl rfl, Or.inl rfl, Or.inl rfl, Or.inl rfl, Or.inr rfl, Or.inl rfl, trivial⟩ ?_
      have e : fX0_commonDivisor_9 i (u0, u1) = (false, (u1, (u0 - u0 / u1 * u1))) := by rw [fX0_commonDivisor_9, if_neg c1]
      rw [gWh_f e] at k
      refine ih (i + 1) u1 (u0 - u0 / u1 * u1) (by omega) ?_
      exact k
def rX0_commonDivisor (wl : Int64) (aw : Int64) : Int64 := ((gWh fX0_commonDivisor_9 100 0 (wl, aw)).1)
set_option maxRecDepth 100000 in
set_option maxHeartbeats 4000000 in
theorem MX0_commonDivisor {w : gW} {al : Bool} {h : gH}  (wl : Int64) (aw : Int64)  : M w gT0 al mX0_commonDivisor 0 0 h [.long wl, .long aw] (gEq h (some (.long (rX0_commonDivisor wl aw)))) := by
  refine M.of (L0 := [.long wl, gF, .long aw, gF, gF, gF, gF, gF, gF, gF, gF]) (by decide +kernel) (Nat.le_of_ble_eq_true rfl) rfl ?_
  refine g_lload_n dX0_commonDivisor_0 rfl 1 rfl rfl ?_
  refine g_lstore4 dX0_commonDivisor_1 3 rfl (by decide) rfl ?_
  refine g_lload_n dX0_commonDivisor_3 rfl 4 rfl rfl ?_
  refine g_lstore6 dX0_commonDivisor_4 6 rfl (by decide) rfl ?_
  refine g_iconst 0 dX0_commonDivisor_6 7 rfl (by decide) ?_
  refine g_istore8 dX0_commonDivisor_7 9 rfl (by decide) rfl ?_
  refine LX0_commonDivisor_9   100 0 wl aw (by omega) ?_
  refine g_lload dX0_commonDivisor_44 46 rfl rfl ?_
  refine g_lreturn dX0_commonDivisor_46 rfl (Nat.le_refl _) (Nat.le_refl _) ?_
  have e : (rX0_commonDivisor wl aw) = ((gWh fX0_commonDivisor_9 100 0 (wl, aw)).1) := by rw [rX0_commonDivisor]
  rw [e]
  exact ⟨rfl, rfl⟩
def rX0_reduce (cu : Int32) (cd : Int32) (wl : Int64) (aw : Int64) : Int32 × Int32 := (if (lg_cmp (rX0_commonDivisor wl aw) 0) ≤ 0 then (cu, cd) else (((wl / (rX0_commonDivisor wl aw)).toInt32), ((aw / (rX0_commonDivisor wl aw)).toInt32)))
set_option maxRecDepth 100000 in
set_option maxHeartbeats 4000000 in
theorem MX0_reduce {w : gW} {al : Bool} {tl rn ki ag co pa me dki dag dco dpa dme nt tnt os og cs mo le se ab : Int32 → Int32} {tn rp so rs wa be pr dso drs dwa dbe dpr nm nb nc nd ns np tnm tnb tnc tnd tns tnp ph kh oh pk pc lf cu cd : Int32} {pf : Nat → Option Nat} {pst kst : Nat → gS}  (wl : Int64) (aw : Int64)  : M w gT0 al mX0_reduce 0 0 (hC tl tn rn rp ki ag co pa me so rs wa be pr dki dag dco dpa dme dso drs dwa dbe dpr nt nm nb nc nd ns np tnt tnm tnb tnc tnd tns tnp pf ph pst kh kst os og oh cs mo le se pk pc lf ab cu cd) [.ref 83, .long wl, .long aw] (gEq (hC tl tn rn rp ki ag co pa me so rs wa be pr dki dag dco dpa dme dso drs dwa dbe dpr nt nm nb nc nd ns np tnt tnm tnb tnc tnd tns tnp pf ph pst kh kst os og oh cs mo le se pk pc lf ab ((rX0_reduce cu cd wl aw).1) ((rX0_reduce cu cd wl aw).2)) none) := by
  refine M.of (L0 := [.ref 83, .long wl, gF, .long aw, gF, gF, gF]) (by decide +kernel) (Nat.le_of_ble_eq_true rfl) rfl ?_
  refine g_lload_n dX0_reduce_0 rfl 1 rfl rfl ?_
  refine g_lload_n dX0_reduce_1 rfl 2 rfl rfl ?_
  refine g_cSv (as := [.long wl, .long aw]) (st := []) dX0_reduce_2 5 rfl kX0_65 ⟨Nat.le_of_ble_eq_true rfl, Nat.le_of_ble_eq_true rfl⟩ (MX0_commonDivisor wl aw) rfl (Nat.le_of_ble_eq_true rfl) (Nat.le_refl _) (Nat.le_refl _) ?_
  refine g_lstore5 dX0_reduce_5 7 rfl (by decide) rfl ?_
  refine g_lload dX0_reduce_7 9 rfl rfl ?_
  refine g_lconst 0 dX0_reduce_9 10 rfl (by decide) ?_
  refine g_lcmp dX0_reduce_10 11 rfl ?_
  refine g_if_le dX0_reduce_11 32 rfl 14 rfl (fun c1 => ?_) (fun c1 => ?_)
  · refine g_return dX0_reduce_32 rfl (Nat.le_refl _) (Nat.le_refl _) ?_
    have e : (rX0_reduce cu cd wl aw) = (cu, cd) := by rw [rX0_reduce, if_pos c1]
    rw [e]
    exact ⟨rfl, rfl⟩
  · refine g_aload_n dX0_reduce_14 rfl 15 rfl rfl ?_
    refine g_lload_n dX0_reduce_15 rfl 16 rfl rfl ?_
    refine g_lload dX0_reduce_16 18 rfl rfl ?_
    refine g_ldiv dX0_reduce_18 19 rfl (fun z => c1 (by rw [z]; decide)) ?_
    refine g_l2i dX0_reduce_19 20 rfl ?_
    refine g_put dX0_reduce_20 23 rfl lX0_69 wrX0 rfl rfl rfl rfl rfl (Nat.le_of_ble_eq_true rfl) (h' := (hC tl tn rn rp ki ag co pa me so rs wa be pr dki dag dco dpa dme dso drs dwa dbe dpr nt nm nb nc nd ns np tnt tnm tnb tnc tnd tns tnp pf ph pst kh kst os og oh cs mo le se pk pc lf ab ((wl / (rX0_commonDivisor wl aw)).toInt32) cd)) rfl ?_
    refine g_aload_n dX0_reduce_23 rfl 24 rfl rfl ?_
    refine g_lload_n dX0_reduce_24 rfl 25 rfl rfl ?_
    refine g_lload dX0_reduce_25 27 rfl rfl ?_
    refine g_ldiv dX0_reduce_27 28 rfl (fun z => c1 (by rw [z]; decide)) ?_
    refine g_l2i dX0_reduce_28 29 rfl ?_
    refine g_put dX0_reduce_29 32 rfl lX0_73 wrX0 rfl rfl rfl rfl rfl (Nat.le_of_ble_eq_true rfl) (h' := (hC tl tn rn rp ki ag co pa me so rs wa be pr dki dag dco dpa dme dso drs dwa dbe dpr nt nm nb nc nd ns np tnt tnm tnb tnc tnd tns tnp pf ph pst kh kst os og oh cs mo le se pk pc lf ab ((wl / (rX0_commonDivisor wl aw)).toInt32) ((aw / (rX0_commonDivisor wl aw)).toInt32))) rfl ?_
    refine g_return dX0_reduce_32 rfl (Nat.le_refl _) (Nat.le_refl _) ?_
    have e : (rX0_reduce cu cd wl aw) = (((wl / (rX0_commonDivisor wl aw)).toInt32), ((aw / (rX0_commonDivisor wl aw)).toInt32)) := by rw [rX0_reduce, if_neg c1]
    rw [e]
    exact ⟨rfl, rfl⟩
def fX0_isAble_17 (ab : Int32 → Int32) (a : Nat) : Nat → (Bool) → Bool × (Bool)
  | i, br => (if (a.testBit i) = true then (if (ab (nI (andN a (2 ^ i)))) = 1 then (true, true) else (false, false)) else (false, false))
set_option maxRecDepth 100000 in
set_option maxHeartbeats 4000000 in
theorem LX0_isAble_17 {w : gW} {al : Bool} {tl rn ki ag co pa me dki dag dco dpa dme nt tnt os og cs mo le se ab : Int32 → Int32} {tn rp wa be pr dso drs dwa dbe dpr nm ns np tnm tnb tnc tnd tns tnp ph kh oh pk pc lf cu cd : Int32} {pf : Nat → Option Nat} {pst kst : Nat → gS} {n : Nat} {P : gP} {sz bo cr de sd : Nat} {a : Nat} (hs : sz ≤ 9) (hsd : sd < 512) (ha : a < 512)  : ∀ (d i : Nat) , i + d = 9 → (¬ (gWh (fX0_isAble_17 ab a) d i false) = true → G w gT0 al n mX0_isAble 0 0 P 0 0 (hC tl tn rn rp ki ag co pa me (nI sd) (nI sz) wa be pr dki dag dco dpa dme dso drs dwa dbe dpr nt nm (nI bo) (nI cr) (nI de) ns np tnt tnm tnb tnc tnd tns tnp pf ph pst kh kst os og oh cs mo le se pk pc lf ab cu cd) 57 [.ref 83, .int (nI a), gF] []) → ((gWh (fX0_isAble_17 ab a) d i false) = true → P (hC tl tn rn rp ki ag co pa me (nI sd) (nI sz) wa be pr dki dag dco dpa dme dso drs dwa dbe dpr nt nm (nI bo) (nI cr) (nI de) ns np tnt tnm tnb tnc tnd tns tnp pf ph pst kh kst os og oh cs mo le se pk pc lf ab cu cd) (some (.int 1))) → G w gT0 al n mX0_isAble 0 0 P 0 0 (hC tl tn rn rp ki ag co pa me (nI sd) (nI sz) wa be pr dki dag dco dpa dme dso drs dwa dbe dpr nt nm (nI bo) (nI cr) (nI de) ns np tnt tnm tnb tnc tnd tns tnp pf ph pst kh kst os og oh cs mo le se pk pc lf ab cu cd) 17 [.ref 83, .int (nI a), .int (nI i)] [] := by
  intro d
  induction d with
  | zero =>
    intro i hi k k2
    have hN : i = 9 := by omega
    rw [hN]
    rw [hN] at k
    refine g_iload_n dX0_isAble_17 rfl 18 rfl rfl ?_
    refine g_bipush 9 dX0_isAble_18 20 rfl (by decide) ?_
    refine g_icmp_ge dX0_isAble_20 57 rfl 23 rfl (fun _ => ?_) (fun c => absurd (nI_le (a := 9) (b := 9) (by omega) (by omega)) c)
    refine g_fgt (L' := [.ref 83, .int (nI a), gF]) ⟨Or.inl rfl, Or.inl rfl, Or.inr rfl, trivial⟩ ?_
    exact k (by simp [gWh])
  | succ d ih =>
    intro i hi k k2
    refine g_iload_n dX0_isAble_17 rfl 18 rfl rfl ?_
    refine g_bipush 9 dX0_isAble_18 20 rfl (by decide) ?_
    refine g_icmp_ge dX0_isAble_20 57 rfl 23 rfl (fun c => absurd c (nI_ge (a := i) (b := 9) (by omega) (by omega))) (fun _ => ?_)
    refine g_iload_n dX0_isAble_23 rfl 24 rfl rfl ?_
    refine g_iload_n dX0_isAble_24 rfl 25 rfl rfl ?_
    refine g_cSNv (as := [.int (nI a), .int (nI i)]) (st := []) dX0_isAble_25 28 rfl kX0_62 ⟨Nat.le_of_ble_eq_true rfl, Nat.le_of_ble_eq_true rfl⟩ (MX9_has a i (by omega) (by omega)) rfl (Nat.le_of_ble_eq_true rfl) (Nat.le_refl _) (Nat.le_refl _) ?_
    refine g_if_eq dX0_isAble_28 51 rfl 31 rfl (fun c1 => ?_) (fun c1 => ?_)
    · replace c1 := gB_f c1
      refine g_iinc2 dX0_isAble_51 54 rfl 1 (by decide) (nI (i + 1)) (nI_add _ 1) (by decide) rfl ?_
      refine g_goto dX0_isAble_54 17 rfl ?_
      have e : (fX0_isAble_17 ab a) i false = (false, false) := by rw [fX0_isAble_17, if_neg c1]
      rw [gWh_f e] at k k2
      refine ih (i + 1)  (by omega) k k2
    · replace c1 := gB_t c1
      refine g_aload_n dX0_isAble_31 rfl 32 rfl rfl ?_
      refine g_get (v := .ref 84) dX0_isAble_32 35 rfl lX0_14 rfl rfl ?_
      refine g_iload_n dX0_isAble_35 rfl 36 rfl rfl ?_
      refine g_iconst 1 dX0_isAble_36 37 rfl (by decide) ?_
      refine g_iload_n dX0_isAble_37 rfl 38 rfl rfl ?_
      refine g_ishl' dX0_isAble_38 39 rfl (nI (2 ^ i)) (z_1shl (by omega)) ?_
      refine g_iconst (-1) dX0_isAble_39 40 rfl (by decide) ?_
      refine g_ixor dX0_isAble_40 41 rfl ?_
      refine g_iand' dX0_isAble_41 42 rfl (nI (andN a (2 ^ i))) (z_andN _ _) ?_
      refine g_cVv (as := [.int (nI (andN a (2 ^ i)))]) (st := []) dX0_isAble_42 45 rfl kX0_48 ⟨Nat.le_of_ble_eq_true rfl, Nat.le_of_ble_eq_true rfl⟩ (MX3_atN (k := 84) (j := 85) (N := 512) (f := ab) rfl rfl (by decide) (andN a (2 ^ i)) (Nat.lt_of_le_of_lt andN_le (by omega))) rfl rfl rfl rfl (Nat.le_of_ble_eq_true rfl) (Nat.le_refl _) (Nat.le_refl _) ?_
      refine g_iconst 1 dX0_isAble_45 46 rfl (by decide) ?_
      refine g_icmp_ne dX0_isAble_46 51 rfl 49 rfl (fun c2 => ?_) (fun c2 => ?_)
      · refine g_iinc2 dX0_isAble_51 54 rfl 1 (by decide) (nI (i + 1)) (nI_add _ 1) (by decide) rfl ?_
        refine g_goto dX0_isAble_54 17 rfl ?_
        have e : (fX0_isAble_17 ab a) i false = (false, false) := by rw [fX0_isAble_17, if_pos c1, if_neg c2]
        rw [gWh_f e] at k k2
        refine ih (i + 1)  (by omega) k k2
      · refine g_iconst 1 dX0_isAble_49 50 rfl (by decide) ?_
        refine g_ireturn dX0_isAble_50 rfl rfl (Nat.le_refl _) (Nat.le_refl _) ?_
        have e : (fX0_isAble_17 ab a) i false = (true, true) := by rw [fX0_isAble_17, if_pos c1, if_pos c2]
        rw [gWh_t e] at k2
        exact k2 rfl
def rX0_isAble (ki : Int32 → Int32) (ag : Int32 → Int32) (me : Int32 → Int32) (wa : Int32) (be : Int32) (pr : Int32) (nt : Int32 → Int32) (ab : Int32 → Int32) (a : Nat) (sz : Nat) (cr : Nat) (de : Nat) (sd : Nat) : Bool := (if (rX6_costOf_29 ki ag me wa be pr nt a sz cr de sd) = (-4) then (if (gWh (fX0_isAble_17 ab a) 9 0 false) = true then true else false) else true)
set_option maxRecDepth 100000 in
set_option maxHeartbeats 4000000 in
theorem MX0_isAble {w : gW} {al : Bool} {tl rn ki ag co pa me dki dag dco dpa dme nt tnt os og cs mo le se ab : Int32 → Int32} {tn rp wa be pr dso drs dwa dbe dpr nm ns np tnm tnb tnc tnd tns tnp ph kh oh pk pc lf cu cd : Int32} {pf : Nat → Option Nat} {pst kst : Nat → gS} {sz bo cr de sd : Nat} (a : Nat) (hs : sz ≤ 9) (hsd : sd < 512) (ha : a < 512)  : M w gT0 al mX0_isAble 0 0 (hC tl tn rn rp ki ag co pa me (nI sd) (nI sz) wa be pr dki dag dco dpa dme dso drs dwa dbe dpr nt nm (nI bo) (nI cr) (nI de) ns np tnt tnm tnb tnc tnd tns tnp pf ph pst kh kst os og oh cs mo le se pk pc lf ab cu cd) [.ref 83, .int (nI a)] (gEq (hC tl tn rn rp ki ag co pa me (nI sd) (nI sz) wa be pr dki dag dco dpa dme dso drs dwa dbe dpr nt nm (nI bo) (nI cr) (nI de) ns np tnt tnm tnb tnc tnd tns tnp pf ph pst kh kst os og oh cs mo le se pk pc lf ab cu cd) (some (.int (gB (rX0_isAble ki ag me wa be pr nt ab a sz cr de sd))))) := by
  refine M.of (L0 := [.ref 83, .int (nI a), gF]) (by decide +kernel) (Nat.le_of_ble_eq_true rfl) rfl ?_
  refine g_aload_n dX0_isAble_0 rfl 1 rfl rfl ?_
  refine g_get (v := .ref 29) dX0_isAble_1 4 rfl lX0_20 rfl rfl ?_
  refine g_iload_n dX0_isAble_4 rfl 5 rfl rfl ?_
  refine g_cVv (as := [.int (nI a)]) (st := []) dX0_isAble_5 8 rfl kX0_59 ⟨Nat.le_of_ble_eq_true rfl, Nat.le_of_ble_eq_true rfl⟩ (MX6_costOf_29 (sz := sz) (bo := bo) (cr := cr) (de := de) (sd := sd) a (by omega) (by omega) (by omega)) rfl rfl rfl rfl (Nat.le_of_ble_eq_true rfl) (Nat.le_refl _) (Nat.le_refl _) ?_
  refine g_bipush (-4) dX0_isAble_8 10 rfl (by decide) ?_
  refine g_icmp_eq dX0_isAble_10 15 rfl 13 rfl (fun c1 => ?_) (fun c1 => ?_)
  · refine g_iconst 0 dX0_isAble_15 16 rfl (by decide) ?_
    refine g_istore2 dX0_isAble_16 17 rfl (by decide) rfl ?_
    refine LX0_isAble_17 (a := a) (by omega) (by omega) (by omega) 9 0  (by omega) (fun c2 => ?_) (fun c2 => ?_)
    · refine g_iconst 0 dX0_isAble_57 58 rfl (by decide) ?_
      refine g_ireturn dX0_isAble_58 rfl rfl (Nat.le_refl _) (Nat.le_refl _) ?_
      have e : (rX0_isAble ki ag me wa be pr nt ab a sz cr de sd) = false := by rw [rX0_isAble, if_pos c1, if_neg c2]
      rw [e]
      exact ⟨rfl, rfl⟩
    · have e : (rX0_isAble ki ag me wa be pr nt ab a sz cr de sd) = true := by rw [rX0_isAble, if_pos c1, if_pos c2]
      rw [e]
      exact ⟨rfl, rfl⟩
  · refine g_iconst 1 dX0_isAble_13 14 rfl (by decide) ?_
    refine g_ireturn dX0_isAble_14 rfl rfl (Nat.le_refl _) (Nat.le_refl _) ?_
    have e : (rX0_isAble ki ag me wa be pr nt ab a sz cr de sd) = true := by rw [rX0_isAble, if_neg c1]
    rw [e]
    exact ⟨rfl, rfl⟩
theorem tOnes_cnt : ∀ v, v < 512 → tOnes v = (List.range 9).countP (fun k => v.testBit k) := by decide +kernel
theorem tOnes_mono {a b : Nat} (ha : a < 512) (hb : b < 512) (h : rX9_within (nI a) (nI b) = true) : tOnes a ≤ tOnes b := by
  have e : andN a b = 0 := by
    have hl : andN a b < 512 := Nat.lt_of_le_of_lt andN_le ha
    unfold rX9_within at h
    split at h
    · rename_i q
      rw [z_andN] at q
      rcases Nat.eq_zero_or_pos (andN a b) with z | z
      · exact z
      · exact absurd q (nI_ne0 (by omega) (by omega))
    · cases h
  rw [tOnes_cnt a ha, tOnes_cnt b hb]
  refine List.countP_mono_left (fun k _ hk => ?_)
  have hk2 : a.testBit k = true := hk
  have t := andN_tb (a := a) (b := b) (i := k)
  rw [e, Nat.zero_testBit, hk2] at t
  show b.testBit k = true
  cases hb2 : b.testBit k
  · rw [hb2] at t
    exact absurd t (by decide)
  · rfl
def fX0_reckon_19 (ki : Int32 → Int32) (ag : Int32 → Int32) (me : Int32 → Int32) (wa : Int32) (be : Int32) (pr : Int32) (nt : Int32 → Int32) (tx : Int32) (v : Nat) (mm : Nat) (sz : Nat) (cr : Nat) (de : Nat) (sd : Nat) : Nat → (Int64 × (Int32 → Int32)) → (Int64 × (Int32 → Int32))
  | i, (u0, ab) => (if (rX9_within (nI i) (nI v)) = true then (if (rX0_isAble ki ag me wa be pr nt ab i sz cr de sd) = true then ((u0 + ((rX0_power tx (tOnes i)) * (rX0_power (10 - tx) (mm - tOnes i)))), (gup ab (nI i) 1)) else (u0, (gup ab (nI i) 0))) else (u0, (gup ab (nI i) 0)))
set_option maxRecDepth 100000 in
set_option maxHeartbeats 4000000 in
theorem LX0_reckon_19 {w : gW} {al : Bool} {tl rn ki ag co pa me dki dag dco dpa dme nt tnt os og cs mo le se : Int32 → Int32} {tn rp wa be pr dso drs dwa dbe dpr nm ns np tnm tnb tnc tnd tns tnp ph kh oh pk pc lf cu cd : Int32} {pf : Nat → Option Nat} {pst kst : Nat → gS} {n : Nat} {P : gP} {sz bo cr de sd : Nat} {tx : Int32} {v : Nat} {mm : Nat} (hs : sz ≤ 9) (hsd : sd < 512) (hv : v < 512) (hmm : mm = tOnes v) (hm9 : mm ≤ 9)  : ∀ (d i : Nat) (u0 : Int64) (ab : Int32 → Int32), i + d = 512 → G w gT0 al n mX0_reckon 0 0 P 0 0 (hC tl tn rn rp ki ag co pa me (nI sd) (nI sz) wa be pr dki dag dco dpa dme dso drs dwa dbe dpr nt nm (nI bo) (nI cr) (nI de) ns np tnt tnm tnb tnc tnd tns tnp pf ph pst kh kst os og oh cs mo le se pk pc lf ((gLp (fX0_reckon_19 ki ag me wa be pr nt tx v mm sz cr de sd) d i (u0, ab)).2) cu cd) 108 [.ref 83, .int tx, .int (nI v), .int (nI mm), .long ((gLp (fX0_reckon_19 ki ag me wa be pr nt tx v mm sz cr de sd) d i (u0, ab)).1), gF, .int (nI 512), gF] [] → G w gT0 al n mX0_reckon 0 0 P 0 0 (hC tl tn rn rp ki ag co pa me (nI sd) (nI sz) wa be pr dki dag dco dpa dme dso drs dwa dbe dpr nt nm (nI bo) (nI cr) (nI de) ns np tnt tnm tnb tnc tnd tns tnp pf ph pst kh kst os og oh cs mo le se pk pc lf ab cu cd) 19 [.ref 83, .int tx, .int (nI v), .int (nI mm), .long u0, gF, .int (nI i), gF] [] := by
  intro d
  induction d with
  | zero =>
    intro i u0 ab hi k
    have hN : i = 512 := by omega
    rw [hN]
    rw [hN] at k
    refine g_iload dX0_reckon_19 21 rfl rfl ?_
    refine g_sipush 512 dX0_reckon_21 24 rfl (by decide) ?_
    refine g_icmp_ge dX0_reckon_24 108 rfl 27 rfl (fun _ => ?_) (fun c => absurd (nI_le (a := 512) (b := 512) (by omega) (by omega)) c)
    exact k
  | succ d ih =>
    intro i u0 ab hi k
    refine g_iload dX0_reckon_19 21 rfl rfl ?_
    refine g_sipush 512 dX0_reckon_21 24 rfl (by decide) ?_
    refine g_icmp_ge dX0_reckon_24 108 rfl 27 rfl (fun c => absurd c (nI_ge (a := i) (b := 512) (by omega) (by omega))) (fun _ => ?_)
    refine g_aload_n dX0_reckon_27 rfl 28 rfl rfl ?_
    refine g_get (v := .ref 84) dX0_reckon_28 31 rfl lX0_14 rfl rfl ?_
    refine g_iload dX0_reckon_31 33 rfl rfl ?_
    refine g_iload dX0_reckon_33 35 rfl rfl ?_
    refine g_iload_n dX0_reckon_35 rfl 36 rfl rfl ?_
    refine g_cSNv (as := [.int (nI i), .int (nI v)]) (st := [.int (nI i), .ref 84]) dX0_reckon_36 39 rfl kX0_36 ⟨Nat.le_of_ble_eq_true rfl, Nat.le_of_ble_eq_true rfl⟩ (MX9_within (nI i) (nI v)) rfl (Nat.le_of_ble_eq_true rfl) (Nat.le_refl _) (Nat.le_refl _) ?_
    refine g_if_eq dX0_reckon_39 55 rfl 42 rfl (fun c1 => ?_) (fun c1 => ?_)
    · replace c1 := gB_f c1
      refine g_iconst 0 dX0_reckon_55 56 rfl (by decide) ?_
      refine g_cV0 (as := [.int (nI i), .int 0]) (st := []) dX0_reckon_56 59 rfl kX0_44 ⟨Nat.le_of_ble_eq_true rfl, Nat.le_of_ble_eq_true rfl⟩ (MX3_putN (k := 84) (j := 85) (N := 512) (f := ab) rfl rfl (by decide) i (by omega) 0 (h' := (hC tl tn rn rp ki ag co pa me (nI sd) (nI sz) wa be pr dki dag dco dpa dme dso drs dwa dbe dpr nt nm (nI bo) (nI cr) (nI de) ns np tnt tnm tnb tnc tnd tns tnp pf ph pst kh kst os og oh cs mo le se pk pc lf (gup ab (nI i) 0) cu cd)) rfl) rfl rfl rfl rfl (Nat.le_of_ble_eq_true rfl) (Nat.le_refl _) (Nat.le_refl _) ?_
      refine g_aload_n dX0_reckon_59 rfl 60 rfl rfl ?_
      refine g_get (v := .ref 84) dX0_reckon_60 63 rfl lX0_14 rfl rfl ?_
      refine g_iload dX0_reckon_63 65 rfl rfl ?_
      refine g_cVv (as := [.int (nI i)]) (st := []) dX0_reckon_65 68 rfl kX0_48 ⟨Nat.le_of_ble_eq_true rfl, Nat.le_of_ble_eq_true rfl⟩ (MX3_atV (k := 84) (j := 85) (N := 512) (f := (gup ab (nI i) 0)) rfl rfl (by decide) i (by omega) 0 gup_s) rfl rfl rfl rfl (Nat.le_of_ble_eq_true rfl) (Nat.le_refl _) (Nat.le_refl _) ?_
      refine g_iconst 1 dX0_reckon_68 69 rfl (by decide) ?_
      refine g_icmp_ne dX0_reckon_69 102 rfl 72 rfl (fun _ => ?_) (fun c => absurd c (by decide))
      refine g_iinc6 dX0_reckon_102 105 rfl 1 (by decide) (nI (i + 1)) (nI_add _ 1) (by decide) rfl ?_
      refine g_goto dX0_reckon_105 19 rfl ?_
      have e : (fX0_reckon_19 ki ag me wa be pr nt tx v mm sz cr de sd) i (u0, ab) = (u0, (gup ab (nI i) 0)) := by rw [fX0_reckon_19, if_neg c1]
      refine ih (i + 1) u0 (gup ab (nI i) 0) (by omega) ?_
      rw [← e]
      exact k
    · replace c1 := gB_t c1
      refine g_aload_n dX0_reckon_42 rfl 43 rfl rfl ?_
      refine g_iload dX0_reckon_43 45 rfl rfl ?_
      refine g_cVv (as := [.int (nI i)]) (st := [.int (nI i), .ref 84]) dX0_reckon_45 48 rfl kX0_40 ⟨Nat.le_of_ble_eq_true rfl, Nat.le_of_ble_eq_true rfl⟩ (MX0_isAble (sz := sz) (bo := bo) (cr := cr) (de := de) (sd := sd) i (by omega) (by omega) (by omega)) rfl rfl rfl rfl (Nat.le_of_ble_eq_true rfl) (Nat.le_refl _) (Nat.le_refl _) ?_
      refine g_if_eq dX0_reckon_48 55 rfl 51 rfl (fun c2 => ?_) (fun c2 => ?_)
      · replace c2 := gB_f c2
        refine g_iconst 0 dX0_reckon_55 56 rfl (by decide) ?_
        refine g_cV0 (as := [.int (nI i), .int 0]) (st := []) dX0_reckon_56 59 rfl kX0_44 ⟨Nat.le_of_ble_eq_true rfl, Nat.le_of_ble_eq_true rfl⟩ (MX3_putN (k := 84) (j := 85) (N := 512) (f := ab) rfl rfl (by decide) i (by omega) 0 (h' := (hC tl tn rn rp ki ag co pa me (nI sd) (nI sz) wa be pr dki dag dco dpa dme dso drs dwa dbe dpr nt nm (nI bo) (nI cr) (nI de) ns np tnt tnm tnb tnc tnd tns tnp pf ph pst kh kst os og oh cs mo le se pk pc lf (gup ab (nI i) 0) cu cd)) rfl) rfl rfl rfl rfl (Nat.le_of_ble_eq_true rfl) (Nat.le_refl _) (Nat.le_refl _) ?_
        refine g_aload_n dX0_reckon_59 rfl 60 rfl rfl ?_
        refine g_get (v := .ref 84) dX0_reckon_60 63 rfl lX0_14 rfl rfl ?_
        refine g_iload dX0_reckon_63 65 rfl rfl ?_
        refine g_cVv (as := [.int (nI i)]) (st := []) dX0_reckon_65 68 rfl kX0_48 ⟨Nat.le_of_ble_eq_true rfl, Nat.le_of_ble_eq_true rfl⟩ (MX3_atV (k := 84) (j := 85) (N := 512) (f := (gup ab (nI i) 0)) rfl rfl (by decide) i (by omega) 0 gup_s) rfl rfl rfl rfl (Nat.le_of_ble_eq_true rfl) (Nat.le_refl _) (Nat.le_refl _) ?_
        refine g_iconst 1 dX0_reckon_68 69 rfl (by decide) ?_
        refine g_icmp_ne dX0_reckon_69 102 rfl 72 rfl (fun _ => ?_) (fun c => absurd c (by decide))
        refine g_iinc6 dX0_reckon_102 105 rfl 1 (by decide) (nI (i + 1)) (nI_add _ 1) (by decide) rfl ?_
        refine g_goto dX0_reckon_105 19 rfl ?_
        have e : (fX0_reckon_19 ki ag me wa be pr nt tx v mm sz cr de sd) i (u0, ab) = (u0, (gup ab (nI i) 0)) := by rw [fX0_reckon_19, if_pos c1, if_neg c2]
        refine ih (i + 1) u0 (gup ab (nI i) 0) (by omega) ?_
        rw [← e]
        exact k
      · replace c2 := gB_t c2
        refine g_iconst 1 dX0_reckon_51 52 rfl (by decide) ?_
        refine g_goto dX0_reckon_52 56 rfl ?_
        refine g_cV0 (as := [.int (nI i), .int 1]) (st := []) dX0_reckon_56 59 rfl kX0_44 ⟨Nat.le_of_ble_eq_true rfl, Nat.le_of_ble_eq_true rfl⟩ (MX3_putN (k := 84) (j := 85) (N := 512) (f := ab) rfl rfl (by decide) i (by omega) 1 (h' := (hC tl tn rn rp ki ag co pa me (nI sd) (nI sz) wa be pr dki dag dco dpa dme dso drs dwa dbe dpr nt nm (nI bo) (nI cr) (nI de) ns np tnt tnm tnb tnc tnd tns tnp pf ph pst kh kst os og oh cs mo le se pk pc lf (gup ab (nI i) 1) cu cd)) rfl) rfl rfl rfl rfl (Nat.le_of_ble_eq_true rfl) (Nat.le_refl _) (Nat.le_refl _) ?_
        refine g_aload_n dX0_reckon_59 rfl 60 rfl rfl ?_
        refine g_get (v := .ref 84) dX0_reckon_60 63 rfl lX0_14 rfl rfl ?_
        refine g_iload dX0_reckon_63 65 rfl rfl ?_
        refine g_cVv (as := [.int (nI i)]) (st := []) dX0_reckon_65 68 rfl kX0_48 ⟨Nat.le_of_ble_eq_true rfl, Nat.le_of_ble_eq_true rfl⟩ (MX3_atV (k := 84) (j := 85) (N := 512) (f := (gup ab (nI i) 1)) rfl rfl (by decide) i (by omega) 1 gup_s) rfl rfl rfl rfl (Nat.le_of_ble_eq_true rfl) (Nat.le_refl _) (Nat.le_refl _) ?_
        refine g_iconst 1 dX0_reckon_68 69 rfl (by decide) ?_
        refine g_icmp_ne dX0_reckon_69 102 rfl 72 rfl (fun c => absurd (by decide) c) (fun _ => ?_)
        refine g_iload dX0_reckon_72 74 rfl rfl ?_
        refine g_cSv (as := [.int (nI i)]) (st := []) dX0_reckon_74 77 rfl kX0_30 ⟨Nat.le_of_ble_eq_true rfl, Nat.le_of_ble_eq_true rfl⟩ (MJ6_bitCount i (by omega)) rfl (Nat.le_of_ble_eq_true rfl) (Nat.le_refl _) (Nat.le_refl _) ?_
        refine g_istore7 dX0_reckon_77 79 rfl (by decide) rfl ?_
        refine g_lload dX0_reckon_79 81 rfl rfl ?_
        refine g_iload_n dX0_reckon_81 rfl 82 rfl rfl ?_
        refine g_iload dX0_reckon_82 84 rfl rfl ?_
        refine g_cSv (as := [.int tx, .int (nI (tOnes i))]) (st := [.long u0]) dX0_reckon_84 87 rfl kX0_51 ⟨Nat.le_of_ble_eq_true rfl, Nat.le_of_ble_eq_true rfl⟩ (MX0_power tx (tOnes i) (Nat.lt_of_le_of_lt (tOnes_all _ (by omega)).2 (by decide))) rfl (Nat.le_of_ble_eq_true rfl) (Nat.le_refl _) (Nat.le_refl _) ?_
        refine g_bipush 10 dX0_reckon_87 89 rfl (by decide) ?_
        refine g_iload_n dX0_reckon_89 rfl 90 rfl rfl ?_
        refine g_isub dX0_reckon_90 91 rfl ?_
        refine g_iload_n dX0_reckon_91 rfl 92 rfl rfl ?_
        refine g_iload dX0_reckon_92 94 rfl rfl ?_
        refine g_isub' dX0_reckon_94 95 rfl (nI (mm - tOnes i)) (pk_sub (by rw [hmm]; exact tOnes_mono (by omega) (by omega) c1)) ?_
        refine g_cSv (as := [.int (10 - tx), .int (nI (mm - tOnes i))]) (st := [.long (rX0_power tx (tOnes i)), .long u0]) dX0_reckon_95 98 rfl kX0_51 ⟨Nat.le_of_ble_eq_true rfl, Nat.le_of_ble_eq_true rfl⟩ (MX0_power (10 - tx) (mm - tOnes i) (by omega)) rfl (Nat.le_of_ble_eq_true rfl) (Nat.le_refl _) (Nat.le_refl _) ?_
        refine g_lmul dX0_reckon_98 99 rfl ?_
        refine g_ladd dX0_reckon_99 100 rfl ?_
        refine g_lstore4 dX0_reckon_100 102 rfl (by decide) rfl ?_
        refine g_iinc6 dX0_reckon_102 105 rfl 1 (by decide) (nI (i + 1)) (nI_add _ 1) (by decide) rfl ?_
        refine g_goto dX0_reckon_105 19 rfl ?_
        refine g_fgt (L' := [.ref 83, .int tx, .int (nI v), .int (nI mm), .long (u0 + ((rX0_power tx (tOnes i)) * (rX0_power (10 - tx) (mm - tOnes i)))), gF, .int (nI (i + 1)), gF]) ⟨Or.inl rfl, Or.inl rfl, Or.inl rfl, Or.inl rfl, Or.inl rfl, Or.inl rfl, Or.inl rfl, Or.inr rfl, trivial⟩ ?_
        have e : (fX0_reckon_19 ki ag me wa be pr nt tx v mm sz cr de sd) i (u0, ab) = ((u0 + ((rX0_power tx (tOnes i)) * (rX0_power (10 - tx) (mm - tOnes i)))), (gup ab (nI i) 1)) := by rw [fX0_reckon_19, if_pos c1, if_pos c2]
        refine ih (i + 1) (u0 + ((rX0_power tx (tOnes i)) * (rX0_power (10 - tx) (mm - tOnes i)))) (gup ab (nI i) 1) (by omega) ?_
        rw [← e]
        exact k
def rX0_reckon (ki : Int32 → Int32) (ag : Int32 → Int32) (co : Int32 → Int32) (me : Int32 → Int32) (wa : Int32) (be : Int32) (pr : Int32) (nt : Int32 → Int32) (nm : Int32) (ab : Int32 → Int32) (cu : Int32) (cd : Int32) (tx : Int32) (sz : Nat) (cr : Nat) (de : Nat) (sd : Nat) : (Int32 → Int32) × Int32 × Int32 := (((gLp (fX0_reckon_19 ki ag me wa be pr nt tx (presN co nm sz cr de) (tOnes (presN co nm sz cr de)) sz cr de sd) 512 0 (0, ab)).2), ((rX0_reduce cu cd ((gLp (fX0_reckon_19 ki ag me wa be pr nt tx (presN co nm sz cr de) (tOnes (presN co nm sz cr de)) sz cr de sd) 512 0 (0, ab)).1) (rX0_power 10 (tOnes (presN co nm sz cr de)))).1), ((rX0_reduce cu cd ((gLp (fX0_reckon_19 ki ag me wa be pr nt tx (presN co nm sz cr de) (tOnes (presN co nm sz cr de)) sz cr de sd) 512 0 (0, ab)).1) (rX0_power 10 (tOnes (presN co nm sz cr de)))).2))
set_option maxRecDepth 100000 in
set_option maxHeartbeats 4000000 in
theorem MX0_reckon {w : gW} {al : Bool} {tl rn ki ag co pa me dki dag dco dpa dme nt tnt os og cs mo le se ab : Int32 → Int32} {tn rp wa be pr dso drs dwa dbe dpr nm ns np tnm tnb tnc tnd tns tnp ph kh oh pk pc lf cu cd : Int32} {pf : Nat → Option Nat} {pst kst : Nat → gS} {sz bo cr de sd : Nat} (tx : Int32) (hs : sz ≤ 9) (hsd : sd < 512)  : M w gT0 al mX0_reckon 0 0 (hC tl tn rn rp ki ag co pa me (nI sd) (nI sz) wa be pr dki dag dco dpa dme dso drs dwa dbe dpr nt nm (nI bo) (nI cr) (nI de) ns np tnt tnm tnb tnc tnd tns tnp pf ph pst kh kst os og oh cs mo le se pk pc lf ab cu cd) [.ref 83, .int tx] (gEq (hC tl tn rn rp ki ag co pa me (nI sd) (nI sz) wa be pr dki dag dco dpa dme dso drs dwa dbe dpr nt nm (nI bo) (nI cr) (nI de) ns np tnt tnm tnb tnc tnd tns tnp pf ph pst kh kst os og oh cs mo le se pk pc lf ((rX0_reckon ki ag co me wa be pr nt nm ab cu cd tx sz cr de sd).1) ((rX0_reckon ki ag co me wa be pr nt nm ab cu cd tx sz cr de sd).2.1) ((rX0_reckon ki ag co me wa be pr nt nm ab cu cd tx sz cr de sd).2.2)) none) := by
  refine M.of (L0 := [.ref 83, .int tx, gF, gF, gF, gF, gF, gF]) (by decide +kernel) (Nat.le_of_ble_eq_true rfl) rfl ?_
  refine g_aload_n dX0_reckon_0 rfl 1 rfl rfl ?_
  refine g_get (v := .ref 29) dX0_reckon_1 4 rfl lX0_20 rfl rfl ?_
  refine g_cVv (as := []) (st := []) dX0_reckon_4 7 rfl kX0_24 ⟨Nat.le_of_ble_eq_true rfl, Nat.le_of_ble_eq_true rfl⟩ (MX6_present_29' (sz := sz) (bo := bo) (cr := cr) (de := de) (sd := sd) (by omega)) rfl rfl rfl rfl (Nat.le_of_ble_eq_true rfl) (Nat.le_refl _) (Nat.le_refl _) ?_
  refine g_istore2 dX0_reckon_7 8 rfl (by decide) rfl ?_
  refine g_iload_n dX0_reckon_8 rfl 9 rfl rfl ?_
  refine g_cSv (as := [.int (nI (presN co nm sz cr de))]) (st := []) dX0_reckon_9 12 rfl kX0_30 ⟨Nat.le_of_ble_eq_true rfl, Nat.le_of_ble_eq_true rfl⟩ (MJ6_bitCount (presN co nm sz cr de) (presN_lt (by omega))) rfl (Nat.le_of_ble_eq_true rfl) (Nat.le_refl _) (Nat.le_refl _) ?_
  refine g_istore3 dX0_reckon_12 13 rfl (by decide) rfl ?_
  refine g_lconst 0 dX0_reckon_13 14 rfl (by decide) ?_
  refine g_lstore4 dX0_reckon_14 16 rfl (by decide) rfl ?_
  refine g_iconst 0 dX0_reckon_16 17 rfl (by decide) ?_
  refine g_istore6 dX0_reckon_17 19 rfl (by decide) rfl ?_
  refine LX0_reckon_19 (v := (presN co nm sz cr de)) (mm := (tOnes (presN co nm sz cr de))) (by omega) (by omega) (presN_lt (by omega)) rfl (tOnes_all _ (presN_lt (by omega))).2 512 0 0 ab (by omega) ?_
  refine g_aload_n dX0_reckon_108 rfl 109 rfl rfl ?_
  refine g_lload dX0_reckon_109 111 rfl rfl ?_
  refine g_bipush 10 dX0_reckon_111 113 rfl (by decide) ?_
  refine g_iload_n dX0_reckon_113 rfl 114 rfl rfl ?_
  refine g_cSv (as := [.int 10, .int (nI (tOnes (presN co nm sz cr de)))]) (st := [.long ((gLp (fX0_reckon_19 ki ag me wa be pr nt tx (presN co nm sz cr de) (tOnes (presN co nm sz cr de)) sz cr de sd) 512 0 (0, ab)).1), .ref 83]) dX0_reckon_114 117 rfl kX0_51 ⟨Nat.le_of_ble_eq_true rfl, Nat.le_of_ble_eq_true rfl⟩ (MX0_power 10 (tOnes (presN co nm sz cr de)) (Nat.lt_of_le_of_lt (tOnes_all _ (presN_lt (by omega))).2 (by decide))) rfl (Nat.le_of_ble_eq_true rfl) (Nat.le_refl _) (Nat.le_refl _) ?_
  refine g_cV0 (as := [.long ((gLp (fX0_reckon_19 ki ag me wa be pr nt tx (presN co nm sz cr de) (tOnes (presN co nm sz cr de)) sz cr de sd) 512 0 (0, ab)).1), .long (rX0_power 10 (tOnes (presN co nm sz cr de)))]) (st := []) dX0_reckon_117 120 rfl kX0_55 ⟨Nat.le_of_ble_eq_true rfl, Nat.le_of_ble_eq_true rfl⟩ (MX0_reduce ((gLp (fX0_reckon_19 ki ag me wa be pr nt tx (presN co nm sz cr de) (tOnes (presN co nm sz cr de)) sz cr de sd) 512 0 (0, ab)).1) (rX0_power 10 (tOnes (presN co nm sz cr de)))) rfl rfl rfl rfl (Nat.le_of_ble_eq_true rfl) (Nat.le_refl _) (Nat.le_refl _) ?_
  refine g_return dX0_reckon_120 rfl (Nat.le_refl _) (Nat.le_refl _) ?_
  have e : (rX0_reckon ki ag co me wa be pr nt nm ab cu cd tx sz cr de sd) = (((gLp (fX0_reckon_19 ki ag me wa be pr nt tx (presN co nm sz cr de) (tOnes (presN co nm sz cr de)) sz cr de sd) 512 0 (0, ab)).2), ((rX0_reduce cu cd ((gLp (fX0_reckon_19 ki ag me wa be pr nt tx (presN co nm sz cr de) (tOnes (presN co nm sz cr de)) sz cr de sd) 512 0 (0, ab)).1) (rX0_power 10 (tOnes (presN co nm sz cr de)))).1), ((rX0_reduce cu cd ((gLp (fX0_reckon_19 ki ag me wa be pr nt tx (presN co nm sz cr de) (tOnes (presN co nm sz cr de)) sz cr de sd) 512 0 (0, ab)).1) (rX0_power 10 (tOnes (presN co nm sz cr de)))).2)) := by rw [rX0_reckon]
  rw [e]
  try dsimp only
  exact ⟨rfl, rfl⟩
