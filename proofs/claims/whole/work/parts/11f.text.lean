/-! the class: Text, Told, Roll -/
def rX7_length (tn : Int32) : Int32 := tn
set_option maxRecDepth 100000 in
set_option maxHeartbeats 4000000 in
theorem MX7_length {w : gW} {al : Bool} {tl rn ki ag co pa me dki dag dco dpa dme nt tnt os og cs mo le se ab : Int32 → Int32} {tn rp so rs wa be pr dso drs dwa dbe dpr nm nb nc nd ns np tnm tnb tnc tnd tns tnp ph kh oh pk pc lf cu cd : Int32} {pf : Nat → Option Nat} {pst kst : Nat → gS}   : M w gT0 al mX7_length 0 0 (hC tl tn rn rp ki ag co pa me so rs wa be pr dki dag dco dpa dme dso drs dwa dbe dpr nt nm nb nc nd ns np tnt tnm tnb tnc tnd tns tnp pf ph pst kh kst os og oh cs mo le se pk pc lf ab cu cd) [.ref 1] (gEq (hC tl tn rn rp ki ag co pa me so rs wa be pr dki dag dco dpa dme dso drs dwa dbe dpr nt nm nb nc nd ns np tnt tnm tnb tnc tnd tns tnp pf ph pst kh kst os og oh cs mo le se pk pc lf ab cu cd) (some (.int (rX7_length tn)))) := by
  refine M.of (L0 := [.ref 1]) (by decide +kernel) (Nat.le_of_ble_eq_true rfl) rfl ?_
  refine g_aload_n dX7_length_0 rfl 1 rfl rfl ?_
  refine g_get (v := .int tn) dX7_length_1 4 rfl lX7_20 rfl rfl ?_
  refine g_ireturn dX7_length_4 rfl rfl (Nat.le_refl _) (Nat.le_refl _) ?_
  have e : (rX7_length tn) = tn := by rw [rX7_length]
  rw [e]
  exact ⟨rfl, rfl⟩
def rX7_clear  : Int32 := 0
set_option maxRecDepth 100000 in
set_option maxHeartbeats 4000000 in
theorem MX7_clear {w : gW} {al : Bool} {tl rn ki ag co pa me dki dag dco dpa dme nt tnt os og cs mo le se ab : Int32 → Int32} {tn rp so rs wa be pr dso drs dwa dbe dpr nm nb nc nd ns np tnm tnb tnc tnd tns tnp ph kh oh pk pc lf cu cd : Int32} {pf : Nat → Option Nat} {pst kst : Nat → gS}   : M w gT0 al mX7_clear 0 0 (hC tl tn rn rp ki ag co pa me so rs wa be pr dki dag dco dpa dme dso drs dwa dbe dpr nt nm nb nc nd ns np tnt tnm tnb tnc tnd tns tnp pf ph pst kh kst os og oh cs mo le se pk pc lf ab cu cd) [.ref 1] (gEq (hC tl rX7_clear rn rp ki ag co pa me so rs wa be pr dki dag dco dpa dme dso drs dwa dbe dpr nt nm nb nc nd ns np tnt tnm tnb tnc tnd tns tnp pf ph pst kh kst os og oh cs mo le se pk pc lf ab cu cd) none) := by
  refine M.of (L0 := [.ref 1]) (by decide +kernel) (Nat.le_of_ble_eq_true rfl) rfl ?_
  refine g_aload_n dX7_clear_0 rfl 1 rfl rfl ?_
  refine g_iconst 0 dX7_clear_1 2 rfl (by decide) ?_
  refine g_put dX7_clear_2 5 rfl lX7_20 wrX7 rfl rfl rfl rfl rfl (Nat.le_of_ble_eq_true rfl) (h' := (hC tl 0 rn rp ki ag co pa me so rs wa be pr dki dag dco dpa dme dso drs dwa dbe dpr nt nm nb nc nd ns np tnt tnm tnb tnc tnd tns tnp pf ph pst kh kst os og oh cs mo le se pk pc lf ab cu cd)) rfl ?_
  refine g_return dX7_clear_5 rfl (Nat.le_refl _) (Nat.le_refl _) ?_
  have e : rX7_clear = 0 := by rw [rX7_clear]
  rw [e]
  exact ⟨rfl, rfl⟩
def rX7_add (tl : Int32 → Int32) (lt : Int32) (ty : Nat) : (Int32 → Int32) × Nat := ((gup tl (nI ty) lt), ty + 1)
set_option maxRecDepth 100000 in
set_option maxHeartbeats 4000000 in
theorem MX7_add {w : gW} {al : Bool} {tl rn ki ag co pa me dki dag dco dpa dme nt tnt os og cs mo le se ab : Int32 → Int32} {rp so rs wa be pr dso drs dwa dbe dpr nm nb nc nd ns np tnm tnb tnc tnd tns tnp ph kh oh pk pc lf cu cd : Int32} {pf : Nat → Option Nat} {pst kst : Nat → gS} {ty : Nat} (lt : Int32) (hty : ty < 200)  : M w gT0 al mX7_add 0 0 (hC tl (nI ty) rn rp ki ag co pa me so rs wa be pr dki dag dco dpa dme dso drs dwa dbe dpr nt nm nb nc nd ns np tnt tnm tnb tnc tnd tns tnp pf ph pst kh kst os og oh cs mo le se pk pc lf ab cu cd) [.ref 1, .int lt] (gEq (hC ((rX7_add tl lt ty).1) (nI ((rX7_add tl lt ty).2)) rn rp ki ag co pa me so rs wa be pr dki dag dco dpa dme dso drs dwa dbe dpr nt nm nb nc nd ns np tnt tnm tnb tnc tnd tns tnp pf ph pst kh kst os og oh cs mo le se pk pc lf ab cu cd) none) := by
  refine M.of (L0 := [.ref 1, .int lt]) (by decide +kernel) (Nat.le_of_ble_eq_true rfl) rfl ?_
  refine g_aload_n dX7_add_0 rfl 1 rfl rfl ?_
  refine g_get (v := .int (nI ty)) dX7_add_1 4 rfl lX7_20 rfl rfl ?_
  refine g_sipush 200 dX7_add_4 7 rfl (by decide) ?_
  refine g_icmp_ge dX7_add_7 32 rfl 10 rfl (fun c => absurd c (nI_ge (b := 200) (by omega) (by omega))) (fun _ => ?_)
  refine g_aload_n dX7_add_10 rfl 11 rfl rfl ?_
  refine g_get (v := .ref 2) dX7_add_11 14 rfl lX7_14 rfl rfl ?_
  refine g_aload_n dX7_add_14 rfl 15 rfl rfl ?_
  refine g_get (v := .int (nI ty)) dX7_add_15 18 rfl lX7_20 rfl rfl ?_
  refine g_iload_n dX7_add_18 rfl 19 rfl rfl ?_
  refine g_cV0 (as := [.int (nI ty), .int lt]) (st := []) dX7_add_19 22 rfl kX7_24 ⟨Nat.le_of_ble_eq_true rfl, Nat.le_of_ble_eq_true rfl⟩ (MX3_putN (k := 2) (j := 3) (N := 200) (f := tl) rfl rfl (by decide) ty (by omega) lt (h' := (hC (gup tl (nI ty) lt) (nI ty) rn rp ki ag co pa me so rs wa be pr dki dag dco dpa dme dso drs dwa dbe dpr nt nm nb nc nd ns np tnt tnm tnb tnc tnd tns tnp pf ph pst kh kst os og oh cs mo le se pk pc lf ab cu cd)) rfl) rfl rfl rfl rfl (Nat.le_of_ble_eq_true rfl) (Nat.le_refl _) (Nat.le_refl _) ?_
  refine g_aload_n dX7_add_22 rfl 23 rfl rfl ?_
  refine g_dup dX7_add_23 24 rfl rfl ?_
  refine g_get (v := .int (nI ty)) dX7_add_24 27 rfl lX7_20 rfl rfl ?_
  refine g_iconst 1 dX7_add_27 28 rfl (by decide) ?_
  refine g_iadd' dX7_add_28 29 rfl (nI (ty + 1)) (nI_add _ 1) ?_
  refine g_put dX7_add_29 32 rfl lX7_20 wrX7 rfl rfl rfl rfl rfl (Nat.le_of_ble_eq_true rfl) (h' := (hC (gup tl (nI ty) lt) (nI (ty + 1)) rn rp ki ag co pa me so rs wa be pr dki dag dco dpa dme dso drs dwa dbe dpr nt nm nb nc nd ns np tnt tnm tnb tnc tnd tns tnp pf ph pst kh kst os og oh cs mo le se pk pc lf ab cu cd)) rfl ?_
  refine g_return dX7_add_32 rfl (Nat.le_refl _) (Nat.le_refl _) ?_
  have e : (rX7_add tl lt ty) = ((gup tl (nI ty) lt), ty + 1) := by rw [rX7_add]
  rw [e]
  exact ⟨rfl, rfl⟩
def rX7_letterAt (tl : Int32 → Int32) (k : Nat) (ty : Nat) : Int32 := (if (nI ty) ≤ (nI k) then 0 else (tl (nI k)))
set_option maxRecDepth 100000 in
set_option maxHeartbeats 4000000 in
theorem MX7_letterAt {w : gW} {al : Bool} {tl rn ki ag co pa me dki dag dco dpa dme nt tnt os og cs mo le se ab : Int32 → Int32} {rp so rs wa be pr dso drs dwa dbe dpr nm nb nc nd ns np tnm tnb tnc tnd tns tnp ph kh oh pk pc lf cu cd : Int32} {pf : Nat → Option Nat} {pst kst : Nat → gS} {ty : Nat} (k : Nat) (hty : ty ≤ 200) (hk : k < 1000)  : M w gT0 al mX7_letterAt 0 0 (hC tl (nI ty) rn rp ki ag co pa me so rs wa be pr dki dag dco dpa dme dso drs dwa dbe dpr nt nm nb nc nd ns np tnt tnm tnb tnc tnd tns tnp pf ph pst kh kst os og oh cs mo le se pk pc lf ab cu cd) [.ref 1, .int (nI k)] (gEq (hC tl (nI ty) rn rp ki ag co pa me so rs wa be pr dki dag dco dpa dme dso drs dwa dbe dpr nt nm nb nc nd ns np tnt tnm tnb tnc tnd tns tnp pf ph pst kh kst os og oh cs mo le se pk pc lf ab cu cd) (some (.int (rX7_letterAt tl k ty)))) := by
  refine M.of (L0 := [.ref 1, .int (nI k)]) (by decide +kernel) (Nat.le_of_ble_eq_true rfl) rfl ?_
  refine g_iload_n dX7_letterAt_0 rfl 1 rfl rfl ?_
  refine g_aload_n dX7_letterAt_1 rfl 2 rfl rfl ?_
  refine g_get (v := .int (nI ty)) dX7_letterAt_2 5 rfl lX7_20 rfl rfl ?_
  refine g_icmp_ge dX7_letterAt_5 19 rfl 8 rfl (fun c1 => ?_) (fun c1 => ?_)
  · refine g_iconst 0 dX7_letterAt_19 20 rfl (by decide) ?_
    refine g_ireturn dX7_letterAt_20 rfl rfl (Nat.le_refl _) (Nat.le_refl _) ?_
    have e : (rX7_letterAt tl k ty) = 0 := by rw [rX7_letterAt, if_pos c1]
    rw [e]
    exact ⟨rfl, rfl⟩
  · refine g_aload_n dX7_letterAt_8 rfl 9 rfl rfl ?_
    refine g_get (v := .ref 2) dX7_letterAt_9 12 rfl lX7_14 rfl rfl ?_
    refine g_iload_n dX7_letterAt_12 rfl 13 rfl rfl ?_
    refine g_cVv (as := [.int (nI k)]) (st := []) dX7_letterAt_13 16 rfl kX7_28 ⟨Nat.le_of_ble_eq_true rfl, Nat.le_of_ble_eq_true rfl⟩ (MX3_atN (k := 2) (j := 3) (N := 200) (f := tl) rfl rfl (by decide) k (by have q : k < ty := Nat.lt_of_not_le (fun z => c1 (nI_le z (by omega))); omega)) rfl rfl rfl rfl (Nat.le_of_ble_eq_true rfl) (Nat.le_refl _) (Nat.le_refl _) ?_
    refine g_goto dX7_letterAt_16 20 rfl ?_
    refine g_ireturn dX7_letterAt_20 rfl rfl (Nat.le_refl _) (Nat.le_refl _) ?_
    have e : (rX7_letterAt tl k ty) = (tl (nI k)) := by rw [rX7_letterAt, if_neg c1]
    rw [e]
    exact ⟨rfl, rfl⟩
def rX8_clear  : Int32 := 0
set_option maxRecDepth 100000 in
set_option maxHeartbeats 4000000 in
theorem MX8_clear {w : gW} {al : Bool} {tl rn ki ag co pa me dki dag dco dpa dme nt tnt os og cs mo le se ab : Int32 → Int32} {tn rp so rs wa be pr dso drs dwa dbe dpr nm nb nc nd ns np tnm tnb tnc tnd tns tnp ph kh oh pk pc lf cu cd : Int32} {pf : Nat → Option Nat} {pst kst : Nat → gS}   : M w gT0 al mX8_clear 0 0 (hC tl tn rn rp ki ag co pa me so rs wa be pr dki dag dco dpa dme dso drs dwa dbe dpr nt nm nb nc nd ns np tnt tnm tnb tnc tnd tns tnp pf ph pst kh kst os og oh cs mo le se pk pc lf ab cu cd) [.ref 69] (gEq (hC tl tn rn rp ki ag co pa me so rs wa be pr dki dag dco dpa dme dso drs dwa dbe dpr nt nm nb nc nd ns np tnt tnm tnb tnc tnd tns tnp pf ph pst kh kst os og rX8_clear cs mo le se pk pc lf ab cu cd) none) := by
  refine M.of (L0 := [.ref 69]) (by decide +kernel) (Nat.le_of_ble_eq_true rfl) rfl ?_
  refine g_aload_n dX8_clear_0 rfl 1 rfl rfl ?_
  refine g_iconst 0 dX8_clear_1 2 rfl (by decide) ?_
  refine g_put dX8_clear_2 5 rfl lX8_23 wrX8 rfl rfl rfl rfl rfl (Nat.le_of_ble_eq_true rfl) (h' := (hC tl tn rn rp ki ag co pa me so rs wa be pr dki dag dco dpa dme dso drs dwa dbe dpr nt nm nb nc nd ns np tnt tnm tnb tnc tnd tns tnp pf ph pst kh kst os og 0 cs mo le se pk pc lf ab cu cd)) rfl ?_
  refine g_return dX8_clear_5 rfl (Nat.le_refl _) (Nat.le_refl _) ?_
  have e : rX8_clear = 0 := by rw [rX8_clear]
  rw [e]
  exact ⟨rfl, rfl⟩
def rX8_add (os : Int32 → Int32) (og : Int32 → Int32) (st : Int32) (ga : Int32) (hd : Nat) : (Int32 → Int32) × (Int32 → Int32) × Nat := ((gup os (nI hd) st), (gup og (nI hd) ga), hd + 1)
set_option maxRecDepth 100000 in
set_option maxHeartbeats 4000000 in
theorem MX8_add {w : gW} {al : Bool} {tl rn ki ag co pa me dki dag dco dpa dme nt tnt os og cs mo le se ab : Int32 → Int32} {tn rp so rs wa be pr dso drs dwa dbe dpr nm nb nc nd ns np tnm tnb tnc tnd tns tnp ph kh pk pc lf cu cd : Int32} {pf : Nat → Option Nat} {pst kst : Nat → gS} {hd : Nat} (st : Int32) (ga : Int32) (hhd : hd < 5)  : M w gT0 al mX8_add 0 0 (hC tl tn rn rp ki ag co pa me so rs wa be pr dki dag dco dpa dme dso drs dwa dbe dpr nt nm nb nc nd ns np tnt tnm tnb tnc tnd tns tnp pf ph pst kh kst os og (nI hd) cs mo le se pk pc lf ab cu cd) [.ref 69, .int st, .int ga] (gEq (hC tl tn rn rp ki ag co pa me so rs wa be pr dki dag dco dpa dme dso drs dwa dbe dpr nt nm nb nc nd ns np tnt tnm tnb tnc tnd tns tnp pf ph pst kh kst ((rX8_add os og st ga hd).1) ((rX8_add os og st ga hd).2.1) (nI ((rX8_add os og st ga hd).2.2)) cs mo le se pk pc lf ab cu cd) none) := by
  refine M.of (L0 := [.ref 69, .int st, .int ga]) (by decide +kernel) (Nat.le_of_ble_eq_true rfl) rfl ?_
  refine g_aload_n dX8_add_0 rfl 1 rfl rfl ?_
  refine g_get (v := .int (nI hd)) dX8_add_1 4 rfl lX8_23 rfl rfl ?_
  refine g_iconst 5 dX8_add_4 5 rfl (by decide) ?_
  refine g_icmp_ge dX8_add_5 42 rfl 8 rfl (fun c => absurd c (nI_ge (b := 5) (by omega) (by omega))) (fun _ => ?_)
  refine g_aload_n dX8_add_8 rfl 9 rfl rfl ?_
  refine g_get (v := .ref 70) dX8_add_9 12 rfl lX8_14 rfl rfl ?_
  refine g_aload_n dX8_add_12 rfl 13 rfl rfl ?_
  refine g_get (v := .int (nI hd)) dX8_add_13 16 rfl lX8_23 rfl rfl ?_
  refine g_iload_n dX8_add_16 rfl 17 rfl rfl ?_
  refine g_cV0 (as := [.int (nI hd), .int st]) (st := []) dX8_add_17 20 rfl kX8_27 ⟨Nat.le_of_ble_eq_true rfl, Nat.le_of_ble_eq_true rfl⟩ (MX3_putN (k := 70) (j := 71) (N := 5) (f := os) rfl rfl (by decide) hd (by omega) st (h' := (hC tl tn rn rp ki ag co pa me so rs wa be pr dki dag dco dpa dme dso drs dwa dbe dpr nt nm nb nc nd ns np tnt tnm tnb tnc tnd tns tnp pf ph pst kh kst (gup os (nI hd) st) og (nI hd) cs mo le se pk pc lf ab cu cd)) rfl) rfl rfl rfl rfl (Nat.le_of_ble_eq_true rfl) (Nat.le_refl _) (Nat.le_refl _) ?_
  refine g_aload_n dX8_add_20 rfl 21 rfl rfl ?_
  refine g_get (v := .ref 72) dX8_add_21 24 rfl lX8_20 rfl rfl ?_
  refine g_aload_n dX8_add_24 rfl 25 rfl rfl ?_
  refine g_get (v := .int (nI hd)) dX8_add_25 28 rfl lX8_23 rfl rfl ?_
  refine g_iload_n dX8_add_28 rfl 29 rfl rfl ?_
  refine g_cV0 (as := [.int (nI hd), .int ga]) (st := []) dX8_add_29 32 rfl kX8_27 ⟨Nat.le_of_ble_eq_true rfl, Nat.le_of_ble_eq_true rfl⟩ (MX3_putN (k := 72) (j := 73) (N := 5) (f := og) rfl rfl (by decide) hd (by omega) ga (h' := (hC tl tn rn rp ki ag co pa me so rs wa be pr dki dag dco dpa dme dso drs dwa dbe dpr nt nm nb nc nd ns np tnt tnm tnb tnc tnd tns tnp pf ph pst kh kst (gup os (nI hd) st) (gup og (nI hd) ga) (nI hd) cs mo le se pk pc lf ab cu cd)) rfl) rfl rfl rfl rfl (Nat.le_of_ble_eq_true rfl) (Nat.le_refl _) (Nat.le_refl _) ?_
  refine g_aload_n dX8_add_32 rfl 33 rfl rfl ?_
  refine g_dup dX8_add_33 34 rfl rfl ?_
  refine g_get (v := .int (nI hd)) dX8_add_34 37 rfl lX8_23 rfl rfl ?_
  refine g_iconst 1 dX8_add_37 38 rfl (by decide) ?_
  refine g_iadd' dX8_add_38 39 rfl (nI (hd + 1)) (nI_add _ 1) ?_
  refine g_put dX8_add_39 42 rfl lX8_23 wrX8 rfl rfl rfl rfl rfl (Nat.le_of_ble_eq_true rfl) (h' := (hC tl tn rn rp ki ag co pa me so rs wa be pr dki dag dco dpa dme dso drs dwa dbe dpr nt nm nb nc nd ns np tnt tnm tnb tnc tnd tns tnp pf ph pst kh kst (gup os (nI hd) st) (gup og (nI hd) ga) (nI (hd + 1)) cs mo le se pk pc lf ab cu cd)) rfl ?_
  refine g_return dX8_add_42 rfl (Nat.le_refl _) (Nat.le_refl _) ?_
  have e : (rX8_add os og st ga hd) = ((gup os (nI hd) st), (gup og (nI hd) ga), hd + 1) := by rw [rX8_add]
  rw [e]
  exact ⟨rfl, rfl⟩
def fX8_isSoIf_2 (og : Int32 → Int32) (p : Nat) (ol : Int32) (osn : Nat → Nat) : Nat → (Bool) → Bool × (Bool)
  | i, br => (if ((osn i).testBit p) = true then (if (og (nI i)) = ol then (false, false) else (true, true)) else (if (og (nI i)) = 0 then (false, false) else (true, true)))
set_option maxRecDepth 100000 in
set_option maxHeartbeats 4000000 in
theorem LX8_isSoIf_2 {w : gW} {al : Bool} {tl rn ki ag co pa me dki dag dco dpa dme nt tnt os og cs mo le se ab : Int32 → Int32} {tn rp so rs wa be pr dso drs dwa dbe dpr nm nb nc nd ns np tnm tnb tnc tnd tns tnp ph kh pk pc lf cu cd : Int32} {pf : Nat → Option Nat} {pst kst : Nat → gS} {n : Nat} {P : gP} {hd : Nat} {osn : Nat → Nat} {p : Nat} {ol : Int32} (hhd : hd ≤ 5) (hp : p < 9) (hos : ∀ j, j < hd → os (nI j) = nI (osn j) ∧ osn j < 512)  : ∀ (d i : Nat) , i + d = hd → (¬ (gWh (fX8_isSoIf_2 og p ol osn) d i false) = true → G w gT0 al n mX8_isSoIf 0 0 P 0 0 (hC tl tn rn rp ki ag co pa me so rs wa be pr dki dag dco dpa dme dso drs dwa dbe dpr nt nm nb nc nd ns np tnt tnm tnb tnc tnd tns tnp pf ph pst kh kst os og (nI hd) cs mo le se pk pc lf ab cu cd) 49 [.ref 69, .int (nI p), .int ol, gF] []) → ((gWh (fX8_isSoIf_2 og p ol osn) d i false) = true → P (hC tl tn rn rp ki ag co pa me so rs wa be pr dki dag dco dpa dme dso drs dwa dbe dpr nt nm nb nc nd ns np tnt tnm tnb tnc tnd tns tnp pf ph pst kh kst os og (nI hd) cs mo le se pk pc lf ab cu cd) (some (.int 0))) → G w gT0 al n mX8_isSoIf 0 0 P 0 0 (hC tl tn rn rp ki ag co pa me so rs wa be pr dki dag dco dpa dme dso drs dwa dbe dpr nt nm nb nc nd ns np tnt tnm tnb tnc tnd tns tnp pf ph pst kh kst os og (nI hd) cs mo le se pk pc lf ab cu cd) 2 [.ref 69, .int (nI p), .int ol, .int (nI i)] [] := by
  intro d
  induction d with
  | zero =>
    intro i hi k k2
    have hN : i = hd := by omega
    rw [hN]
    rw [hN] at k
    refine g_iload_n dX8_isSoIf_2 rfl 3 rfl rfl ?_
    refine g_aload_n dX8_isSoIf_3 rfl 4 rfl rfl ?_
    refine g_get (v := .int (nI hd)) dX8_isSoIf_4 7 rfl lX8_23 rfl rfl ?_
    refine g_icmp_ge dX8_isSoIf_7 49 rfl 10 rfl (fun _ => ?_) (fun c => absurd (nI_le (Nat.le_refl _) (by omega)) c)
    refine g_fgt (L' := [.ref 69, .int (nI p), .int ol, gF]) ⟨Or.inl rfl, Or.inl rfl, Or.inl rfl, Or.inr rfl, trivial⟩ ?_
    exact k (by simp [gWh])
  | succ d ih =>
    intro i hi k k2
    refine g_iload_n dX8_isSoIf_2 rfl 3 rfl rfl ?_
    refine g_aload_n dX8_isSoIf_3 rfl 4 rfl rfl ?_
    refine g_get (v := .int (nI hd)) dX8_isSoIf_4 7 rfl lX8_23 rfl rfl ?_
    refine g_icmp_ge dX8_isSoIf_7 49 rfl 10 rfl (fun c => absurd c (nI_ge (by omega) (by omega))) (fun _ => ?_)
    refine g_aload_n dX8_isSoIf_10 rfl 11 rfl rfl ?_
    refine g_get (v := .ref 72) dX8_isSoIf_11 14 rfl lX8_20 rfl rfl ?_
    refine g_iload_n dX8_isSoIf_14 rfl 15 rfl rfl ?_
    refine g_cVv (as := [.int (nI i)]) (st := []) dX8_isSoIf_15 18 rfl kX8_31 ⟨Nat.le_of_ble_eq_true rfl, Nat.le_of_ble_eq_true rfl⟩ (MX3_atN (k := 72) (j := 73) (N := 5) (f := og) rfl rfl (by decide) i (by omega)) rfl rfl rfl rfl (Nat.le_of_ble_eq_true rfl) (Nat.le_refl _) (Nat.le_refl _) ?_
    refine g_aload_n dX8_isSoIf_18 rfl 19 rfl rfl ?_
    refine g_get (v := .ref 70) dX8_isSoIf_19 22 rfl lX8_14 rfl rfl ?_
    refine g_iload_n dX8_isSoIf_22 rfl 23 rfl rfl ?_
    refine g_cVv (as := [.int (nI i)]) (st := [.int (og (nI i))]) dX8_isSoIf_23 26 rfl kX8_31 ⟨Nat.le_of_ble_eq_true rfl, Nat.le_of_ble_eq_true rfl⟩ (MX3_atV (k := 70) (j := 71) (N := 5) (f := os) rfl rfl (by decide) i (by omega) (nI (osn i)) (hos i (by omega)).1) rfl rfl rfl rfl (Nat.le_of_ble_eq_true rfl) (Nat.le_refl _) (Nat.le_refl _) ?_
    refine g_iload_n dX8_isSoIf_26 rfl 27 rfl rfl ?_
    refine g_cSNv (as := [.int (nI (osn i)), .int (nI p)]) (st := [.int (og (nI i))]) dX8_isSoIf_27 30 rfl kX8_35 ⟨Nat.le_of_ble_eq_true rfl, Nat.le_of_ble_eq_true rfl⟩ (MX9_has (osn i) p (Nat.lt_trans (hos i (by omega)).2 (by decide)) (by omega)) rfl (Nat.le_of_ble_eq_true rfl) (Nat.le_refl _) (Nat.le_refl _) ?_
    refine g_if_eq dX8_isSoIf_30 37 rfl 33 rfl (fun c1 => ?_) (fun c1 => ?_)
    · replace c1 := gB_f c1
      refine g_iconst 0 dX8_isSoIf_37 38 rfl (by decide) ?_
      refine g_icmp_eq dX8_isSoIf_38 43 rfl 41 rfl (fun c2 => ?_) (fun c2 => ?_)
      · refine g_iinc3 dX8_isSoIf_43 46 rfl 1 (by decide) (nI (i + 1)) (nI_add _ 1) (by decide) rfl ?_
        refine g_goto dX8_isSoIf_46 2 rfl ?_
        have e : (fX8_isSoIf_2 og p ol osn) i false = (false, false) := by rw [fX8_isSoIf_2, if_neg c1, if_pos c2]
        rw [gWh_f e] at k k2
        refine ih (i + 1)  (by omega) k k2
      · refine g_iconst 0 dX8_isSoIf_41 42 rfl (by decide) ?_
        refine g_ireturn dX8_isSoIf_42 rfl rfl (Nat.le_refl _) (Nat.le_refl _) ?_
        have e : (fX8_isSoIf_2 og p ol osn) i false = (true, true) := by rw [fX8_isSoIf_2, if_neg c1, if_neg c2]
        rw [gWh_t e] at k2
        exact k2 rfl
    · replace c1 := gB_t c1
      refine g_iload_n dX8_isSoIf_33 rfl 34 rfl rfl ?_
      refine g_goto dX8_isSoIf_34 38 rfl ?_
      refine g_icmp_eq dX8_isSoIf_38 43 rfl 41 rfl (fun c3 => ?_) (fun c3 => ?_)
      · refine g_iinc3 dX8_isSoIf_43 46 rfl 1 (by decide) (nI (i + 1)) (nI_add _ 1) (by decide) rfl ?_
        refine g_goto dX8_isSoIf_46 2 rfl ?_
        have e : (fX8_isSoIf_2 og p ol osn) i false = (false, false) := by rw [fX8_isSoIf_2, if_pos c1, if_pos c3]
        rw [gWh_f e] at k k2
        refine ih (i + 1)  (by omega) k k2
      · refine g_iconst 0 dX8_isSoIf_41 42 rfl (by decide) ?_
        refine g_ireturn dX8_isSoIf_42 rfl rfl (Nat.le_refl _) (Nat.le_refl _) ?_
        have e : (fX8_isSoIf_2 og p ol osn) i false = (true, true) := by rw [fX8_isSoIf_2, if_pos c1, if_neg c3]
        rw [gWh_t e] at k2
        exact k2 rfl
def rX8_isSoIf (og : Int32 → Int32) (p : Nat) (ol : Int32) (hd : Nat) (osn : Nat → Nat) : Bool := (if (gWh (fX8_isSoIf_2 og p ol osn) hd 0 false) = true then false else true)
set_option maxRecDepth 100000 in
set_option maxHeartbeats 4000000 in
theorem MX8_isSoIf {w : gW} {al : Bool} {tl rn ki ag co pa me dki dag dco dpa dme nt tnt os og cs mo le se ab : Int32 → Int32} {tn rp so rs wa be pr dso drs dwa dbe dpr nm nb nc nd ns np tnm tnb tnc tnd tns tnp ph kh pk pc lf cu cd : Int32} {pf : Nat → Option Nat} {pst kst : Nat → gS} {hd : Nat} {osn : Nat → Nat} (p : Nat) (ol : Int32) (hhd : hd ≤ 5) (hp : p < 9) (hos : ∀ j, j < hd → os (nI j) = nI (osn j) ∧ osn j < 512)  : M w gT0 al mX8_isSoIf 0 0 (hC tl tn rn rp ki ag co pa me so rs wa be pr dki dag dco dpa dme dso drs dwa dbe dpr nt nm nb nc nd ns np tnt tnm tnb tnc tnd tns tnp pf ph pst kh kst os og (nI hd) cs mo le se pk pc lf ab cu cd) [.ref 69, .int (nI p), .int ol] (gEq (hC tl tn rn rp ki ag co pa me so rs wa be pr dki dag dco dpa dme dso drs dwa dbe dpr nt nm nb nc nd ns np tnt tnm tnb tnc tnd tns tnp pf ph pst kh kst os og (nI hd) cs mo le se pk pc lf ab cu cd) (some (.int (gB (rX8_isSoIf og p ol hd osn))))) := by
  refine M.of (L0 := [.ref 69, .int (nI p), .int ol, gF]) (by decide +kernel) (Nat.le_of_ble_eq_true rfl) rfl ?_
  refine g_iconst 0 dX8_isSoIf_0 1 rfl (by decide) ?_
  refine g_istore3 dX8_isSoIf_1 2 rfl (by decide) rfl ?_
  refine LX8_isSoIf_2 (p := p) (by omega) (by omega) hos hd 0  (by omega) (fun c1 => ?_) (fun c1 => ?_)
  · refine g_iconst 1 dX8_isSoIf_49 50 rfl (by decide) ?_
    refine g_ireturn dX8_isSoIf_50 rfl rfl (Nat.le_refl _) (Nat.le_refl _) ?_
    have e : (rX8_isSoIf og p ol hd osn) = true := by rw [rX8_isSoIf, if_neg c1]
    rw [e]
    exact ⟨rfl, rfl⟩
  · have e : (rX8_isSoIf og p ol hd osn) = false := by rw [rX8_isSoIf, if_pos c1]
    rw [e]
    exact ⟨rfl, rfl⟩
