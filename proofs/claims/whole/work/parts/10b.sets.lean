/-! the reference: sails, undone, best, waits -/
theorem MX10_present' {w : gW} {al : Bool} {typed known kept noted at_ : Int32} {text told draft s past images notes alone parts held : Int32 → Int32} {sz : Nat} (hsz : told 0 = nI sz) (hs : sz ≤ 9)  : M w gT0 al mX10_present 0 0 (hM text typed told draft s past known images kept notes noted at_ alone parts held) [.ref 0] (gEq (hM text typed told draft s past known images kept notes noted at_ alone parts held) (some (.int (nI (tP told s sz))))) := by
  have q := MX10_present (w := w) (al := al) (text := text) (typed := typed) (told := told) (draft := draft) (s := s) (past := past) (known := known) (images := images) (kept := kept) (notes := notes) (noted := noted) (at_ := at_) (alone := alone) (parts := parts) (held := held) hsz hs
  rw [tP_eq _ _ hs] at q
  exact q
def fX10_goes_14 (told : Int32 → Int32) (bits : Int32) : Nat → (Int32 → Int32) → (Int32 → Int32)
  | i, s => (if ((bits >>> ((nI i) &&& 31)) &&& 1) = 1 then (if (told (nI (4 + i))) = 2 then (gup (gup s (nI i) 0) (nI (9 + i)) (((gup s (nI i) 0) (nI (9 + i))) + 1)) else (gup (gup s (nI i) 3) (nI (9 + i)) (((gup s (nI i) 3) (nI (9 + i))) + 1))) else s)
set_option maxRecDepth 100000 in
set_option maxHeartbeats 4000000 in
theorem LX10_goes_14 {w : gW} {al : Bool} {typed known kept noted at_ : Int32} {text told draft past images notes alone parts held : Int32 → Int32} {n : Nat} {P : gP} {sz : Nat} {bits : Int32} {coins : Int32} (hsz : told 0 = nI sz) (hs : sz ≤ 9)  : ∀ (d i : Nat) (s : Int32 → Int32), i + d = sz → G w gT0 al n mX10_goes 0 0 P 0 0 (hM text typed told draft (gLp (fX10_goes_14 told bits) d i s) past known images kept notes noted at_ alone parts held) 75 [.ref 0, .int bits, .int coins, .int (nI sz)] [] → G w gT0 al n mX10_goes 0 0 P 0 0 (hM text typed told draft s past known images kept notes noted at_ alone parts held) 14 [.ref 0, .int bits, .int coins, .int (nI i)] []
  | 0, i, s, hi, k => by
    have hN : i = sz := by omega
    rw [hN]
    rw [hN] at k
    refine g_iload_n dX10_goes_14 rfl 15 rfl rfl ?_
    refine g_aload_n dX10_goes_15 rfl 16 rfl rfl ?_
    refine g_get (v := .ref 2) dX10_goes_16 19 rfl lX10_13 rfl rfl ?_
    refine g_iconst 0 dX10_goes_19 20 rfl (by decide) ?_
    refine g_iaload (N := 40) dX10_goes_20 21 rfl rfl (vp_in_iff.mpr (by decide)) ?_
    refine g_icmp_ge dX10_goes_21 75 rfl 24 rfl (fun _ => ?_) (fun c => absurd (by rw [hsz]; exact nI_le (Nat.le_refl _) (by omega)) c)
    exact k
  | d + 1, i, s, hi, k => by
    refine g_iload_n dX10_goes_14 rfl 15 rfl rfl ?_
    refine g_aload_n dX10_goes_15 rfl 16 rfl rfl ?_
    refine g_get (v := .ref 2) dX10_goes_16 19 rfl lX10_13 rfl rfl ?_
    refine g_iconst 0 dX10_goes_19 20 rfl (by decide) ?_
    refine g_iaload (N := 40) dX10_goes_20 21 rfl rfl (vp_in_iff.mpr (by decide)) ?_
    refine g_icmp_ge dX10_goes_21 75 rfl 24 rfl (fun c => absurd c (by rw [hsz]; exact nI_ge (by omega) (by omega))) (fun _ => ?_)
    refine g_iload_n dX10_goes_24 rfl 25 rfl rfl ?_
    refine g_iload_n dX10_goes_25 rfl 26 rfl rfl ?_
    refine g_ishr dX10_goes_26 27 rfl ?_
    refine g_iconst 1 dX10_goes_27 28 rfl (by decide) ?_
    refine g_iand dX10_goes_28 29 rfl ?_
    refine g_iconst 1 dX10_goes_29 30 rfl (by decide) ?_
    refine g_icmp_ne dX10_goes_30 69 rfl 33 rfl (fun c1 => ?_) (fun c1 => ?_)
    · refine g_iinc3 dX10_goes_69 72 rfl 1 (by decide) (nI (i + 1)) (nI_add _ 1) (by decide) rfl ?_
      refine g_goto dX10_goes_72 14 rfl ?_
      have e : (fX10_goes_14 told bits) i s = s := by rw [fX10_goes_14, if_neg c1]
      refine LX10_goes_14 hsz hs d (i + 1) s (by omega) ?_
      rw [← e]
      exact k
    · refine g_aload_n dX10_goes_33 rfl 34 rfl rfl ?_
      refine g_get (v := .ref 4) dX10_goes_34 37 rfl lX10_19 rfl rfl ?_
      refine g_iload_n dX10_goes_37 rfl 38 rfl rfl ?_
      refine g_aload_n dX10_goes_38 rfl 39 rfl rfl ?_
      refine g_get (v := .ref 2) dX10_goes_39 42 rfl lX10_13 rfl rfl ?_
      refine g_iconst 4 dX10_goes_42 43 rfl (by decide) ?_
      refine g_iload_n dX10_goes_43 rfl 44 rfl rfl ?_
      refine g_iadd' dX10_goes_44 45 rfl (nI (4 + i)) (nI_add 4 _) ?_
      refine g_iaload (N := 40) dX10_goes_45 46 rfl rfl (vp_in_nI (by omega) (by decide)) ?_
      refine g_iconst 2 dX10_goes_46 47 rfl (by decide) ?_
      refine g_icmp_ne dX10_goes_47 54 rfl 50 rfl (fun c2 => ?_) (fun c2 => ?_)
      · refine g_iconst 3 dX10_goes_54 55 rfl (by decide) ?_
        refine g_iastore (N := 21) dX10_goes_55 56 rfl rfl (by decide) (vp_in_nI (by omega) (by decide)) (h' := (hM text typed told draft (gup s (nI i) 3) past known images kept notes noted at_ alone parts held)) rfl ?_
        refine g_aload_n dX10_goes_56 rfl 57 rfl rfl ?_
        refine g_get (v := .ref 4) dX10_goes_57 60 rfl lX10_19 rfl rfl ?_
        refine g_bipush 9 dX10_goes_60 62 rfl (by decide) ?_
        refine g_iload_n dX10_goes_62 rfl 63 rfl rfl ?_
        refine g_iadd' dX10_goes_63 64 rfl (nI (9 + i)) (nI_add 9 _) ?_
        refine g_dup2 dX10_goes_64 65 rfl rfl rfl ?_
        refine g_iaload (N := 21) dX10_goes_65 66 rfl rfl (vp_in_nI (by omega) (by decide)) ?_
        refine g_iconst 1 dX10_goes_66 67 rfl (by decide) ?_
        refine g_iadd dX10_goes_67 68 rfl ?_
        refine g_iastore (N := 21) dX10_goes_68 69 rfl rfl (by decide) (vp_in_nI (by omega) (by decide)) (h' := (hM text typed told draft (gup (gup s (nI i) 3) (nI (9 + i)) (((gup s (nI i) 3) (nI (9 + i))) + 1)) past known images kept notes noted at_ alone parts held)) rfl ?_
        refine g_iinc3 dX10_goes_69 72 rfl 1 (by decide) (nI (i + 1)) (nI_add _ 1) (by decide) rfl ?_
        refine g_goto dX10_goes_72 14 rfl ?_
        have e : (fX10_goes_14 told bits) i s = (gup (gup s (nI i) 3) (nI (9 + i)) (((gup s (nI i) 3) (nI (9 + i))) + 1)) := by rw [fX10_goes_14, if_pos c1, if_neg c2]
        refine LX10_goes_14 hsz hs d (i + 1) (gup (gup s (nI i) 3) (nI (9 + i)) (((gup s (nI i) 3) (nI (9 + i))) + 1)) (by omega) ?_
        rw [← e]
        exact k
      · refine g_iconst 0 dX10_goes_50 51 rfl (by decide) ?_
        refine g_goto dX10_goes_51 55 rfl ?_
        refine g_iastore (N := 21) dX10_goes_55 56 rfl rfl (by decide) (vp_in_nI (by omega) (by decide)) (h' := (hM text typed told draft (gup s (nI i) 0) past known images kept notes noted at_ alone parts held)) rfl ?_
        refine g_aload_n dX10_goes_56 rfl 57 rfl rfl ?_
        refine g_get (v := .ref 4) dX10_goes_57 60 rfl lX10_19 rfl rfl ?_
        refine g_bipush 9 dX10_goes_60 62 rfl (by decide) ?_
        refine g_iload_n dX10_goes_62 rfl 63 rfl rfl ?_
        refine g_iadd' dX10_goes_63 64 rfl (nI (9 + i)) (nI_add 9 _) ?_
        refine g_dup2 dX10_goes_64 65 rfl rfl rfl ?_
        refine g_iaload (N := 21) dX10_goes_65 66 rfl rfl (vp_in_nI (by omega) (by decide)) ?_
        refine g_iconst 1 dX10_goes_66 67 rfl (by decide) ?_
        refine g_iadd dX10_goes_67 68 rfl ?_
        refine g_iastore (N := 21) dX10_goes_68 69 rfl rfl (by decide) (vp_in_nI (by omega) (by decide)) (h' := (hM text typed told draft (gup (gup s (nI i) 0) (nI (9 + i)) (((gup s (nI i) 0) (nI (9 + i))) + 1)) past known images kept notes noted at_ alone parts held)) rfl ?_
        refine g_iinc3 dX10_goes_69 72 rfl 1 (by decide) (nI (i + 1)) (nI_add _ 1) (by decide) rfl ?_
        refine g_goto dX10_goes_72 14 rfl ?_
        have e : (fX10_goes_14 told bits) i s = (gup (gup s (nI i) 0) (nI (9 + i)) (((gup s (nI i) 0) (nI (9 + i))) + 1)) := by rw [fX10_goes_14, if_pos c1, if_pos c2]
        refine LX10_goes_14 hsz hs d (i + 1) (gup (gup s (nI i) 0) (nI (9 + i)) (((gup s (nI i) 0) (nI (9 + i))) + 1)) (by omega) ?_
        rw [← e]
        exact k
def rX10_goes (told : Int32 → Int32) (s : Int32 → Int32) (sz : Nat) : Int32 × (Int32 → Int32) := ((rX10_coinsOf told s (rX10_allAt told s 2 sz) sz), (gup (gup (gLp (fX10_goes_14 told (rX10_allAt told s 2 sz)) sz 0 s) 19 (((gLp (fX10_goes_14 told (rX10_allAt told s 2 sz)) sz 0 s) 19) + 1)) 20 (((gup (gLp (fX10_goes_14 told (rX10_allAt told s 2 sz)) sz 0 s) 19 (((gLp (fX10_goes_14 told (rX10_allAt told s 2 sz)) sz 0 s) 19) + 1)) 20) + (rX10_coinsOf told s (rX10_allAt told s 2 sz) sz))))
set_option maxRecDepth 100000 in
set_option maxHeartbeats 4000000 in
theorem MX10_goes {w : gW} {al : Bool} {typed known kept noted at_ : Int32} {text told draft s past images notes alone parts held : Int32 → Int32} {sz : Nat} (hsz : told 0 = nI sz) (hs : sz ≤ 9)  : M w gT0 al mX10_goes 0 0 (hM text typed told draft s past known images kept notes noted at_ alone parts held) [.ref 0] (gEq (hM text typed told draft ((rX10_goes told s sz).2) past known images kept notes noted at_ alone parts held) (some (.int ((rX10_goes told s sz).1)))) := by
  refine M.of (L0 := [.ref 0, gF, gF, gF]) (by decide +kernel) (Nat.le_of_ble_eq_true rfl) rfl ?_
  refine g_aload_n dX10_goes_0 rfl 1 rfl rfl ?_
  refine g_iconst 2 dX10_goes_1 2 rfl (by decide) ?_
  refine g_cVv (as := [.int 2]) (st := []) dX10_goes_2 5 rfl kX10_92 ⟨Nat.le_of_ble_eq_true rfl, Nat.le_of_ble_eq_true rfl⟩ (MX10_allAt 2 hsz hs) rfl rfl rfl rfl (Nat.le_of_ble_eq_true rfl) (Nat.le_refl _) (Nat.le_refl _) ?_
  refine g_istore1 dX10_goes_5 6 rfl (by decide) rfl ?_
  refine g_aload_n dX10_goes_6 rfl 7 rfl rfl ?_
  refine g_iload_n dX10_goes_7 rfl 8 rfl rfl ?_
  refine g_cVv (as := [.int (rX10_allAt told s 2 sz)]) (st := []) dX10_goes_8 11 rfl kX10_107 ⟨Nat.le_of_ble_eq_true rfl, Nat.le_of_ble_eq_true rfl⟩ (MX10_coinsOf (rX10_allAt told s 2 sz) hsz hs) rfl rfl rfl rfl (Nat.le_of_ble_eq_true rfl) (Nat.le_refl _) (Nat.le_refl _) ?_
  refine g_istore2 dX10_goes_11 12 rfl (by decide) rfl ?_
  refine g_iconst 0 dX10_goes_12 13 rfl (by decide) ?_
  refine g_istore3 dX10_goes_13 14 rfl (by decide) rfl ?_
  refine LX10_goes_14 hsz hs sz 0 s (by omega) ?_
  refine g_aload_n dX10_goes_75 rfl 76 rfl rfl ?_
  refine g_get (v := .ref 4) dX10_goes_76 79 rfl lX10_19 rfl rfl ?_
  refine g_bipush 19 dX10_goes_79 81 rfl (by decide) ?_
  refine g_dup2 dX10_goes_81 82 rfl rfl rfl ?_
  refine g_iaload (N := 21) dX10_goes_82 83 rfl rfl (vp_in_iff.mpr (by decide)) ?_
  refine g_iconst 1 dX10_goes_83 84 rfl (by decide) ?_
  refine g_iadd dX10_goes_84 85 rfl ?_
  refine g_iastore (N := 21) dX10_goes_85 86 rfl rfl (by decide) (vp_in_iff.mpr (by decide)) (h' := (hM text typed told draft (gup (gLp (fX10_goes_14 told (rX10_allAt told s 2 sz)) sz 0 s) 19 (((gLp (fX10_goes_14 told (rX10_allAt told s 2 sz)) sz 0 s) 19) + 1)) past known images kept notes noted at_ alone parts held)) rfl ?_
  refine g_aload_n dX10_goes_86 rfl 87 rfl rfl ?_
  refine g_get (v := .ref 4) dX10_goes_87 90 rfl lX10_19 rfl rfl ?_
  refine g_bipush 20 dX10_goes_90 92 rfl (by decide) ?_
  refine g_dup2 dX10_goes_92 93 rfl rfl rfl ?_
  refine g_iaload (N := 21) dX10_goes_93 94 rfl rfl (vp_in_iff.mpr (by decide)) ?_
  refine g_iload_n dX10_goes_94 rfl 95 rfl rfl ?_
  refine g_iadd dX10_goes_95 96 rfl ?_
  refine g_iastore (N := 21) dX10_goes_96 97 rfl rfl (by decide) (vp_in_iff.mpr (by decide)) (h' := (hM text typed told draft (gup (gup (gLp (fX10_goes_14 told (rX10_allAt told s 2 sz)) sz 0 s) 19 (((gLp (fX10_goes_14 told (rX10_allAt told s 2 sz)) sz 0 s) 19) + 1)) 20 (((gup (gLp (fX10_goes_14 told (rX10_allAt told s 2 sz)) sz 0 s) 19 (((gLp (fX10_goes_14 told (rX10_allAt told s 2 sz)) sz 0 s) 19) + 1)) 20) + (rX10_coinsOf told s (rX10_allAt told s 2 sz) sz))) past known images kept notes noted at_ alone parts held)) rfl ?_
  refine g_iload_n dX10_goes_97 rfl 98 rfl rfl ?_
  refine g_ireturn dX10_goes_98 rfl rfl (Nat.le_refl _) (Nat.le_refl _) ?_
  have e : (rX10_goes told s sz) = ((rX10_coinsOf told s (rX10_allAt told s 2 sz) sz), (gup (gup (gLp (fX10_goes_14 told (rX10_allAt told s 2 sz)) sz 0 s) 19 (((gLp (fX10_goes_14 told (rX10_allAt told s 2 sz)) sz 0 s) 19) + 1)) 20 (((gup (gLp (fX10_goes_14 told (rX10_allAt told s 2 sz)) sz 0 s) 19 (((gLp (fX10_goes_14 told (rX10_allAt told s 2 sz)) sz 0 s) 19) + 1)) 20) + (rX10_coinsOf told s (rX10_allAt told s 2 sz) sz)))) := by rw [rX10_goes]
  rw [e]
  exact ⟨rfl, rfl⟩
def fX10_undo_22 (past : Int32 → Int32) (kn : Nat) : Nat → (Int32 → Int32) → (Int32 → Int32)
  | i, s => (gup s (nI i) (past (nI ((21 * kn) + i))))
set_option maxRecDepth 100000 in
set_option maxHeartbeats 4000000 in
theorem LX10_undo_22 {w : gW} {al : Bool} {typed kept noted at_ : Int32} {text told draft past images notes alone parts held : Int32 → Int32} {n : Nat} {P : gP}  {kn : Nat} (hk : kn < 8)  : ∀ (d i : Nat) (s : Int32 → Int32), i + d = 21 → G w gT0 al n mX10_undo 0 0 P 0 0 (hM text typed told draft (gLp (fX10_undo_22 past kn) d i s) past (nI kn) images kept notes noted at_ alone parts held) 54 [.ref 0, .int (nI 21)] [] → G w gT0 al n mX10_undo 0 0 P 0 0 (hM text typed told draft s past (nI kn) images kept notes noted at_ alone parts held) 22 [.ref 0, .int (nI i)] []
  | 0, i, s, hi, k => by
    have hN : i = 21 := by omega
    rw [hN]
    rw [hN] at k
    refine g_iload_n dX10_undo_22 rfl 23 rfl rfl ?_
    refine g_bipush 21 dX10_undo_23 25 rfl (by decide) ?_
    refine g_icmp_ge dX10_undo_25 54 rfl 28 rfl (fun _ => ?_) (fun c => absurd (nI_le (a := 21) (b := 21) (by omega) (by omega)) c)
    exact k
  | d + 1, i, s, hi, k => by
    refine g_iload_n dX10_undo_22 rfl 23 rfl rfl ?_
    refine g_bipush 21 dX10_undo_23 25 rfl (by decide) ?_
    refine g_icmp_ge dX10_undo_25 54 rfl 28 rfl (fun c => absurd c (nI_ge (a := i) (b := 21) (by omega) (by omega))) (fun _ => ?_)
    refine g_aload_n dX10_undo_28 rfl 29 rfl rfl ?_
    refine g_get (v := .ref 4) dX10_undo_29 32 rfl lX10_19 rfl rfl ?_
    refine g_iload_n dX10_undo_32 rfl 33 rfl rfl ?_
    refine g_aload_n dX10_undo_33 rfl 34 rfl rfl ?_
    refine g_get (v := .ref 5) dX10_undo_34 37 rfl lX10_22 rfl rfl ?_
    refine g_bipush 21 dX10_undo_37 39 rfl (by decide) ?_
    refine g_aload_n dX10_undo_39 rfl 40 rfl rfl ?_
    refine g_get (v := .int (nI kn)) dX10_undo_40 43 rfl lX10_80 rfl rfl ?_
    refine g_imul' dX10_undo_43 44 rfl (nI (21 * kn)) (pk_mul 21 _) ?_
    refine g_iload_n dX10_undo_44 rfl 45 rfl rfl ?_
    refine g_iadd' dX10_undo_45 46 rfl (nI ((21 * kn) + i)) (nI_add _ _) ?_
    refine g_iaload (N := 168) dX10_undo_46 47 rfl rfl (vp_in_nI (by omega) (by decide)) ?_
    refine g_iastore (N := 21) dX10_undo_47 48 rfl rfl (by decide) (vp_in_nI (by omega) (by decide)) (h' := (hM text typed told draft (gup s (nI i) (past (nI ((21 * kn) + i)))) past (nI kn) images kept notes noted at_ alone parts held)) rfl ?_
    refine g_iinc1 dX10_undo_48 51 rfl 1 (by decide) (nI (i + 1)) (nI_add _ 1) (by decide) rfl ?_
    refine g_goto dX10_undo_51 22 rfl ?_
    have e : (fX10_undo_22 past kn) i s = (gup s (nI i) (past (nI ((21 * kn) + i)))) := by rw [fX10_undo_22]
    refine LX10_undo_22 hk d (i + 1) (gup s (nI i) (past (nI ((21 * kn) + i)))) (by omega) ?_
    rw [← e]
    exact k
def rX10_undo (s : Int32 → Int32) (past : Int32 → Int32) (kn : Nat) : Int32 × (Int32 → Int32) × Nat := ((nI kn), (gLp (fX10_undo_22 past kn) 21 0 s), kn)
set_option maxRecDepth 100000 in
set_option maxHeartbeats 4000000 in
theorem MX10_undo {w : gW} {al : Bool} {typed kept noted at_ : Int32} {text told draft s past images notes alone parts held : Int32 → Int32} {kn : Nat} (hk : kn < 8) (hk0 : ¬ (nI (kn + 1)) = 0) : M w gT0 al mX10_undo 0 0 (hM text typed told draft s past (nI (kn + 1)) images kept notes noted at_ alone parts held) [.ref 0] (gEq (hM text typed told draft ((rX10_undo s past kn).2.1) past (nI ((rX10_undo s past kn).2.2)) images kept notes noted at_ alone parts held) (some (.int ((rX10_undo s past kn).1)))) := by
  refine M.of (L0 := [.ref 0, gF]) (by decide +kernel) (Nat.le_of_ble_eq_true rfl) rfl ?_
  refine g_aload_n dX10_undo_0 rfl 1 rfl rfl ?_
  refine g_get (v := .int (nI (kn + 1))) dX10_undo_1 4 rfl lX10_80 rfl rfl ?_
  refine g_if_ne dX10_undo_4 10 rfl 7 rfl (fun _ => ?_) (fun c => absurd c hk0)
  refine g_aload_n dX10_undo_10 rfl 11 rfl rfl ?_
  refine g_dup dX10_undo_11 12 rfl rfl ?_
  refine g_get (v := .int (nI (kn + 1))) dX10_undo_12 15 rfl lX10_80 rfl rfl ?_
  refine g_iconst 1 dX10_undo_15 16 rfl (by decide) ?_
  refine g_isub' dX10_undo_16 17 rfl (nI kn) (nI_pred _) ?_
  refine g_put dX10_undo_17 20 rfl lX10_80 wrX10 rfl rfl rfl rfl rfl (Nat.le_of_ble_eq_true rfl) (h' := (hM text typed told draft s past (nI kn) images kept notes noted at_ alone parts held)) rfl ?_
  refine g_iconst 0 dX10_undo_20 21 rfl (by decide) ?_
  refine g_istore1 dX10_undo_21 22 rfl (by decide) rfl ?_
  refine LX10_undo_22 (by omega) 21 0 s (by omega) ?_
  refine g_aload_n dX10_undo_54 rfl 55 rfl rfl ?_
  refine g_get (v := .int (nI kn)) dX10_undo_55 58 rfl lX10_80 rfl rfl ?_
  refine g_ireturn dX10_undo_58 rfl rfl (Nat.le_refl _) (Nat.le_refl _) ?_
  have e : (rX10_undo s past kn) = ((nI kn), (gLp (fX10_undo_22 past kn) 21 0 s), kn) := by rw [rX10_undo]
  rw [e]
  exact ⟨rfl, rfl⟩
def rX10_undo_0  : Int32 := (-2)
set_option maxRecDepth 100000 in
set_option maxHeartbeats 4000000 in
theorem MX10_undo_0 {w : gW} {al : Bool} {typed kept noted at_ : Int32} {text told draft s past images notes alone parts held : Int32 → Int32}   : M w gT0 al mX10_undo 0 0 (hM text typed told draft s past 0 images kept notes noted at_ alone parts held) [.ref 0] (gEq (hM text typed told draft s past 0 images kept notes noted at_ alone parts held) (some (.int rX10_undo_0))) := by
  refine M.of (L0 := [.ref 0, gF]) (by decide +kernel) (Nat.le_of_ble_eq_true rfl) rfl ?_
  refine g_aload_n dX10_undo_0 rfl 1 rfl rfl ?_
  refine g_get (v := .int 0) dX10_undo_1 4 rfl lX10_80 rfl rfl ?_
  refine g_if_ne dX10_undo_4 10 rfl 7 rfl (fun c => absurd (by decide) c) (fun _ => ?_)
  refine g_bipush (-2) dX10_undo_7 9 rfl (by decide) ?_
  refine g_ireturn dX10_undo_9 rfl rfl (Nat.le_refl _) (Nat.le_refl _) ?_
  have e : rX10_undo_0 = (-2) := by rw [rX10_undo_0]
  rw [e]
  exact ⟨rfl, rfl⟩
def fX10_best_22 (told : Int32 → Int32) (s : Int32 → Int32) (t : Nat) (sz : Nat) : Nat → (Int32) → (Int32)
  | i, u0 => (if ((nI i) &&& ((nI t) ^^^ (-1))) = 0 then (if (rX10_sails told s (nI i) sz) = true then (if u0 = (-4) then (nI i) else (if ((rX10_coinsOf told s (nI i) sz) - (rX10_coinsOf told s u0 sz)) < 0 then (nI i) else (if ((rX10_coinsOf told s (nI i) sz) - (rX10_coinsOf told s u0 sz)) = 0 then (if (rX10_ones u0) ≤ (rX10_ones (nI i)) then u0 else (nI i)) else u0))) else u0) else u0)
set_option maxRecDepth 100000 in
set_option maxHeartbeats 4000000 in
theorem LX10_best_22 {w : gW} {al : Bool} {typed known kept noted at_ : Int32} {text told draft s past images notes alone parts held : Int32 → Int32} {n : Nat} {P : gP} {sz : Nat} {what : Int32} {t : Nat} (hsz : told 0 = nI sz) (hs : sz ≤ 9) (ht : t < 512)  : ∀ (d i : Nat) (u0 : Int32), i + d = t + 1 → G w gT0 al n mX10_best 0 0 P 0 0 (hM text typed told draft s past known images kept notes noted at_ alone parts held) 105 [.ref 0, .int what, .int (gLp (fX10_best_22 told s t sz) d i u0), .int (nI t), .int (nI (t + 1)), gF] [] → G w gT0 al n mX10_best 0 0 P 0 0 (hM text typed told draft s past known images kept notes noted at_ alone parts held) 22 [.ref 0, .int what, .int u0, .int (nI t), .int (nI i), gF] []
  | 0, i, u0, hi, k => by
    have hN : i = t + 1 := by omega
    rw [hN]
    rw [hN] at k
    refine g_iload dX10_best_22 24 rfl rfl ?_
    refine g_iload_n dX10_best_24 rfl 25 rfl rfl ?_
    refine g_icmp_gt dX10_best_25 105 rfl 28 rfl (fun _ => ?_) (fun c => absurd (nI_lt (by omega) (by omega)) c)
    exact k
  | d + 1, i, u0, hi, k => by
    refine g_iload dX10_best_22 24 rfl rfl ?_
    refine g_iload_n dX10_best_24 rfl 25 rfl rfl ?_
    refine g_icmp_gt dX10_best_25 105 rfl 28 rfl (fun c => absurd c (nI_nlt (by omega) (by omega))) (fun _ => ?_)
    refine g_iload dX10_best_28 30 rfl rfl ?_
    refine g_iload_n dX10_best_30 rfl 31 rfl rfl ?_
    refine g_iconst (-1) dX10_best_31 32 rfl (by decide) ?_
    refine g_ixor dX10_best_32 33 rfl ?_
    refine g_iand dX10_best_33 34 rfl ?_
    refine g_if_ne dX10_best_34 99 rfl 37 rfl (fun c1 => ?_) (fun c1 => ?_)
    · refine g_iinc4 dX10_best_99 102 rfl 1 (by decide) (nI (i + 1)) (nI_add _ 1) (by decide) rfl ?_
      refine g_goto dX10_best_102 22 rfl ?_
      have e : (fX10_best_22 told s t sz) i u0 = u0 := by rw [fX10_best_22, if_neg c1]
      refine LX10_best_22 hsz hs ht d (i + 1) u0 (by omega) ?_
      rw [← e]
      exact k
    · refine g_aload_n dX10_best_37 rfl 38 rfl rfl ?_
      refine g_iload dX10_best_38 40 rfl rfl ?_
      refine g_cVv (as := [.int (nI i)]) (st := []) dX10_best_40 43 rfl kX10_104 ⟨Nat.le_of_ble_eq_true rfl, Nat.le_of_ble_eq_true rfl⟩ (MX10_sails (nI i) hsz hs) rfl rfl rfl rfl (Nat.le_of_ble_eq_true rfl) (Nat.le_refl _) (Nat.le_refl _) ?_
      refine g_if_eq dX10_best_43 99 rfl 46 rfl (fun c2 => ?_) (fun c2 => ?_)
      · replace c2 := gB_f c2
        refine g_iinc4 dX10_best_99 102 rfl 1 (by decide) (nI (i + 1)) (nI_add _ 1) (by decide) rfl ?_
        refine g_goto dX10_best_102 22 rfl ?_
        have e : (fX10_best_22 told s t sz) i u0 = u0 := by rw [fX10_best_22, if_pos c1, if_neg c2]
        refine LX10_best_22 hsz hs ht d (i + 1) u0 (by omega) ?_
        rw [← e]
        exact k
      · replace c2 := gB_t c2
        refine g_iload_n dX10_best_46 rfl 47 rfl rfl ?_
        refine g_bipush (-4) dX10_best_47 49 rfl (by decide) ?_
        refine g_icmp_ne dX10_best_49 56 rfl 52 rfl (fun c3 => ?_) (fun c3 => ?_)
        · refine g_aload_n dX10_best_56 rfl 57 rfl rfl ?_
          refine g_iload dX10_best_57 59 rfl rfl ?_
          refine g_cVv (as := [.int (nI i)]) (st := []) dX10_best_59 62 rfl kX10_107 ⟨Nat.le_of_ble_eq_true rfl, Nat.le_of_ble_eq_true rfl⟩ (MX10_coinsOf (nI i) hsz hs) rfl rfl rfl rfl (Nat.le_of_ble_eq_true rfl) (Nat.le_refl _) (Nat.le_refl _) ?_
          refine g_aload_n dX10_best_62 rfl 63 rfl rfl ?_
          refine g_iload_n dX10_best_63 rfl 64 rfl rfl ?_
          refine g_cVv (as := [.int u0]) (st := [.int (rX10_coinsOf told s (nI i) sz)]) dX10_best_64 67 rfl kX10_107 ⟨Nat.le_of_ble_eq_true rfl, Nat.le_of_ble_eq_true rfl⟩ (MX10_coinsOf u0 hsz hs) rfl rfl rfl rfl (Nat.le_of_ble_eq_true rfl) (Nat.le_refl _) (Nat.le_refl _) ?_
          refine g_isub dX10_best_67 68 rfl ?_
          refine g_istore5 dX10_best_68 70 rfl (by decide) rfl ?_
          refine g_iload dX10_best_70 72 rfl rfl ?_
          refine g_if_lt dX10_best_72 92 rfl 75 rfl (fun c4 => ?_) (fun c4 => ?_)
          · refine g_iload dX10_best_92 94 rfl rfl ?_
            refine g_goto dX10_best_94 98 rfl ?_
            refine g_istore2 dX10_best_98 99 rfl (by decide) rfl ?_
            refine g_iinc4 dX10_best_99 102 rfl 1 (by decide) (nI (i + 1)) (nI_add _ 1) (by decide) rfl ?_
            refine g_goto dX10_best_102 22 rfl ?_
            refine g_fgt (L' := [.ref 0, .int what, .int (nI i), .int (nI t), .int (nI (i + 1)), gF]) ⟨Or.inl rfl, Or.inl rfl, Or.inl rfl, Or.inl rfl, Or.inl rfl, Or.inr rfl, trivial⟩ ?_
            have e : (fX10_best_22 told s t sz) i u0 = (nI i) := by rw [fX10_best_22, if_pos c1, if_pos c2, if_neg c3, if_pos c4]
            refine LX10_best_22 hsz hs ht d (i + 1) (nI i) (by omega) ?_
            rw [← e]
            exact k
          · refine g_iload dX10_best_75 77 rfl rfl ?_
            refine g_if_ne dX10_best_77 97 rfl 80 rfl (fun c5 => ?_) (fun c5 => ?_)
            · refine g_iload_n dX10_best_97 rfl 98 rfl rfl ?_
              refine g_istore2 dX10_best_98 99 rfl (by decide) rfl ?_
              refine g_iinc4 dX10_best_99 102 rfl 1 (by decide) (nI (i + 1)) (nI_add _ 1) (by decide) rfl ?_
              refine g_goto dX10_best_102 22 rfl ?_
              refine g_fgt (L' := [.ref 0, .int what, .int u0, .int (nI t), .int (nI (i + 1)), gF]) ⟨Or.inl rfl, Or.inl rfl, Or.inl rfl, Or.inl rfl, Or.inl rfl, Or.inr rfl, trivial⟩ ?_
              have e : (fX10_best_22 told s t sz) i u0 = u0 := by rw [fX10_best_22, if_pos c1, if_pos c2, if_neg c3, if_neg c4, if_neg c5]
              refine LX10_best_22 hsz hs ht d (i + 1) u0 (by omega) ?_
              rw [← e]
              exact k
            · refine g_iload dX10_best_80 82 rfl rfl ?_
              refine g_cSv (as := [.int (nI i)]) (st := []) dX10_best_82 85 rfl kX10_119 ⟨Nat.le_of_ble_eq_true rfl, Nat.le_of_ble_eq_true rfl⟩ (MX10_ones (nI i)) rfl (Nat.le_of_ble_eq_true rfl) (Nat.le_refl _) (Nat.le_refl _) ?_
              refine g_iload_n dX10_best_85 rfl 86 rfl rfl ?_
              refine g_cSv (as := [.int u0]) (st := [.int (rX10_ones (nI i))]) dX10_best_86 89 rfl kX10_119 ⟨Nat.le_of_ble_eq_true rfl, Nat.le_of_ble_eq_true rfl⟩ (MX10_ones u0) rfl (Nat.le_of_ble_eq_true rfl) (Nat.le_refl _) (Nat.le_refl _) ?_
              refine g_icmp_ge dX10_best_89 97 rfl 92 rfl (fun c6 => ?_) (fun c6 => ?_)
              · refine g_iload_n dX10_best_97 rfl 98 rfl rfl ?_
                refine g_istore2 dX10_best_98 99 rfl (by decide) rfl ?_
                refine g_iinc4 dX10_best_99 102 rfl 1 (by decide) (nI (i + 1)) (nI_add _ 1) (by decide) rfl ?_
                refine g_goto dX10_best_102 22 rfl ?_
                refine g_fgt (L' := [.ref 0, .int what, .int u0, .int (nI t), .int (nI (i + 1)), gF]) ⟨Or.inl rfl, Or.inl rfl, Or.inl rfl, Or.inl rfl, Or.inl rfl, Or.inr rfl, trivial⟩ ?_
                have e : (fX10_best_22 told s t sz) i u0 = u0 := by rw [fX10_best_22, if_pos c1, if_pos c2, if_neg c3, if_neg c4, if_pos c5, if_pos c6]
                refine LX10_best_22 hsz hs ht d (i + 1) u0 (by omega) ?_
                rw [← e]
                exact k
              · refine g_iload dX10_best_92 94 rfl rfl ?_
                refine g_goto dX10_best_94 98 rfl ?_
                refine g_istore2 dX10_best_98 99 rfl (by decide) rfl ?_
                refine g_iinc4 dX10_best_99 102 rfl 1 (by decide) (nI (i + 1)) (nI_add _ 1) (by decide) rfl ?_
                refine g_goto dX10_best_102 22 rfl ?_
                refine g_fgt (L' := [.ref 0, .int what, .int (nI i), .int (nI t), .int (nI (i + 1)), gF]) ⟨Or.inl rfl, Or.inl rfl, Or.inl rfl, Or.inl rfl, Or.inl rfl, Or.inr rfl, trivial⟩ ?_
                have e : (fX10_best_22 told s t sz) i u0 = (nI i) := by rw [fX10_best_22, if_pos c1, if_pos c2, if_neg c3, if_neg c4, if_pos c5, if_neg c6]
                refine LX10_best_22 hsz hs ht d (i + 1) (nI i) (by omega) ?_
                rw [← e]
                exact k
        · refine g_iconst (-1) dX10_best_52 53 rfl (by decide) ?_
          refine g_goto dX10_best_53 68 rfl ?_
          refine g_istore5 dX10_best_68 70 rfl (by decide) rfl ?_
          refine g_iload dX10_best_70 72 rfl rfl ?_
          refine g_if_lt dX10_best_72 92 rfl 75 rfl (fun _ => ?_) (fun c => absurd (by decide) c)
          refine g_iload dX10_best_92 94 rfl rfl ?_
          refine g_goto dX10_best_94 98 rfl ?_
          refine g_istore2 dX10_best_98 99 rfl (by decide) rfl ?_
          refine g_iinc4 dX10_best_99 102 rfl 1 (by decide) (nI (i + 1)) (nI_add _ 1) (by decide) rfl ?_
          refine g_goto dX10_best_102 22 rfl ?_
          refine g_fgt (L' := [.ref 0, .int what, .int (nI i), .int (nI t), .int (nI (i + 1)), gF]) ⟨Or.inl rfl, Or.inl rfl, Or.inl rfl, Or.inl rfl, Or.inl rfl, Or.inr rfl, trivial⟩ ?_
          have e : (fX10_best_22 told s t sz) i u0 = (nI i) := by rw [fX10_best_22, if_pos c1, if_pos c2, if_pos c3]
          refine LX10_best_22 hsz hs ht d (i + 1) (nI i) (by omega) ?_
          rw [← e]
          exact k
def rX10_best (told : Int32 → Int32) (s : Int32 → Int32) (what : Int32) (sz : Nat) : Int32 := (if (rX10_in what 0 1) = true then (if what = 0 then (gLp (fX10_best_22 told s (tP told s sz) sz) ((tP told s sz) + 1 - 1) 1 (-4)) else (if (gLp (fX10_best_22 told s (tP told s sz) sz) ((tP told s sz) + 1 - 1) 1 (-4)) = (-4) then (gLp (fX10_best_22 told s (tP told s sz) sz) ((tP told s sz) + 1 - 1) 1 (-4)) else (rX10_coinsOf told s (gLp (fX10_best_22 told s (tP told s sz) sz) ((tP told s sz) + 1 - 1) 1 (-4)) sz))) else (-1))
set_option maxRecDepth 100000 in
set_option maxHeartbeats 4000000 in
theorem MX10_best {w : gW} {al : Bool} {typed known kept noted at_ : Int32} {text told draft s past images notes alone parts held : Int32 → Int32} {sz : Nat} (what : Int32) (hsz : told 0 = nI sz) (hs : sz ≤ 9)  : M w gT0 al mX10_best 0 0 (hM text typed told draft s past known images kept notes noted at_ alone parts held) [.ref 0, .int what] (gEq (hM text typed told draft s past known images kept notes noted at_ alone parts held) (some (.int (rX10_best told s what sz)))) := by
  refine M.of (L0 := [.ref 0, .int what, gF, gF, gF, gF]) (by decide +kernel) (Nat.le_of_ble_eq_true rfl) rfl ?_
  refine g_iload_n dX10_best_0 rfl 1 rfl rfl ?_
  refine g_iconst 0 dX10_best_1 2 rfl (by decide) ?_
  refine g_iconst 1 dX10_best_2 3 rfl (by decide) ?_
  refine g_cSv (as := [.int what, .int 0, .int 1]) (st := []) dX10_best_3 6 rfl kX10_50 ⟨Nat.le_of_ble_eq_true rfl, Nat.le_of_ble_eq_true rfl⟩ (MX10_in what 0 1) rfl (Nat.le_of_ble_eq_true rfl) (Nat.le_refl _) (Nat.le_refl _) ?_
  refine g_if_ne dX10_best_6 11 rfl 9 rfl (fun c1 => ?_) (fun c1 => ?_)
  · replace c1 := gB_t c1
    refine g_bipush (-4) dX10_best_11 13 rfl (by decide) ?_
    refine g_istore2 dX10_best_13 14 rfl (by decide) rfl ?_
    refine g_aload_n dX10_best_14 rfl 15 rfl rfl ?_
    refine g_cVv (as := []) (st := []) dX10_best_15 18 rfl kX10_116 ⟨Nat.le_of_ble_eq_true rfl, Nat.le_of_ble_eq_true rfl⟩ (MX10_present' hsz hs) rfl rfl rfl rfl (Nat.le_of_ble_eq_true rfl) (Nat.le_refl _) (Nat.le_refl _) ?_
    refine g_istore3 dX10_best_18 19 rfl (by decide) rfl ?_
    refine g_iconst 1 dX10_best_19 20 rfl (by decide) ?_
    refine g_istore4 dX10_best_20 22 rfl (by decide) rfl ?_
    refine LX10_best_22 hsz hs (tP_512 _ _ hs) ((tP told s sz) + 1 - 1) 1 (-4) (by omega) ?_
    refine g_iload_n dX10_best_105 rfl 106 rfl rfl ?_
    refine g_if_eq dX10_best_106 115 rfl 109 rfl (fun c2 => ?_) (fun c2 => ?_)
    · refine g_iload_n dX10_best_115 rfl 116 rfl rfl ?_
      refine g_goto dX10_best_116 124 rfl ?_
      refine g_ireturn dX10_best_124 rfl rfl (Nat.le_refl _) (Nat.le_refl _) ?_
      have e : (rX10_best told s what sz) = (gLp (fX10_best_22 told s (tP told s sz) sz) ((tP told s sz) + 1 - 1) 1 (-4)) := by rw [rX10_best, if_pos c1, if_pos c2]
      rw [e]
      exact ⟨rfl, rfl⟩
    · refine g_iload_n dX10_best_109 rfl 110 rfl rfl ?_
      refine g_bipush (-4) dX10_best_110 112 rfl (by decide) ?_
      refine g_icmp_ne dX10_best_112 119 rfl 115 rfl (fun c3 => ?_) (fun c3 => ?_)
      · refine g_aload_n dX10_best_119 rfl 120 rfl rfl ?_
        refine g_iload_n dX10_best_120 rfl 121 rfl rfl ?_
        refine g_cVv (as := [.int (gLp (fX10_best_22 told s (tP told s sz) sz) ((tP told s sz) + 1 - 1) 1 (-4))]) (st := []) dX10_best_121 124 rfl kX10_107 ⟨Nat.le_of_ble_eq_true rfl, Nat.le_of_ble_eq_true rfl⟩ (MX10_coinsOf (gLp (fX10_best_22 told s (tP told s sz) sz) ((tP told s sz) + 1 - 1) 1 (-4)) hsz hs) rfl rfl rfl rfl (Nat.le_of_ble_eq_true rfl) (Nat.le_refl _) (Nat.le_refl _) ?_
        refine g_ireturn dX10_best_124 rfl rfl (Nat.le_refl _) (Nat.le_refl _) ?_
        have e : (rX10_best told s what sz) = (rX10_coinsOf told s (gLp (fX10_best_22 told s (tP told s sz) sz) ((tP told s sz) + 1 - 1) 1 (-4)) sz) := by rw [rX10_best, if_pos c1, if_neg c2, if_neg c3]
        rw [e]
        exact ⟨rfl, rfl⟩
      · refine g_iload_n dX10_best_115 rfl 116 rfl rfl ?_
        refine g_goto dX10_best_116 124 rfl ?_
        refine g_ireturn dX10_best_124 rfl rfl (Nat.le_refl _) (Nat.le_refl _) ?_
        have e : (rX10_best told s what sz) = (gLp (fX10_best_22 told s (tP told s sz) sz) ((tP told s sz) + 1 - 1) 1 (-4)) := by rw [rX10_best, if_pos c1, if_neg c2, if_pos c3]
        rw [e]
        exact ⟨rfl, rfl⟩
  · replace c1 := gB_f c1
    refine g_iconst (-1) dX10_best_9 10 rfl (by decide) ?_
    refine g_ireturn dX10_best_10 rfl rfl (Nat.le_refl _) (Nat.le_refl _) ?_
    have e : (rX10_best told s what sz) = (-1) := by rw [rX10_best, if_neg c1]
    rw [e]
    exact ⟨rfl, rfl⟩
def fX10_isThere_9 (told : Int32 → Int32) (s : Int32 → Int32) (t : Nat) (sz : Nat) : Nat → (Bool) → Bool × (Bool)
  | i, u0 => (if u0 = true then (true, u0) else (if ((nI i) &&& ((nI t) ^^^ (-1))) = 0 then (if (rX10_sails told s (nI i) sz) = true then (false, true) else (false, false)) else (false, false)))
set_option maxRecDepth 100000 in
set_option maxHeartbeats 4000000 in
theorem LX10_isThere_9 {w : gW} {al : Bool} {typed known kept noted at_ : Int32} {text told draft s past images notes alone parts held : Int32 → Int32} {n : Nat} {P : gP} {sz : Nat} {t : Nat} (hsz : told 0 = nI sz) (hs : sz ≤ 9) (ht : t < 512)  : ∀ (d i : Nat) (u0 : Bool), i + d = t + 1 → G w gT0 al n mX10_isThere 0 0 P 0 0 (hM text typed told draft s past known images kept notes noted at_ alone parts held) 46 [.ref 0, .int (nI t), .int (gB (gWh (fX10_isThere_9 told s t sz) d i u0)), gF] [] → G w gT0 al n mX10_isThere 0 0 P 0 0 (hM text typed told draft s past known images kept notes noted at_ alone parts held) 9 [.ref 0, .int (nI t), .int (gB u0), .int (nI i)] []
  | 0, i, u0, hi, k => by
    have hN : i = t + 1 := by omega
    rw [hN]
    rw [hN] at k
    refine g_iload_n dX10_isThere_9 rfl 10 rfl rfl ?_
    refine g_iload_n dX10_isThere_10 rfl 11 rfl rfl ?_
    refine g_icmp_gt dX10_isThere_11 46 rfl 14 rfl (fun _ => ?_) (fun c => absurd (nI_lt (by omega) (by omega)) c)
    refine g_fgt (L' := [.ref 0, .int (nI t), .int (gB u0), gF]) ⟨Or.inl rfl, Or.inl rfl, Or.inl rfl, Or.inr rfl, trivial⟩ ?_
    exact k
  | d + 1, i, u0, hi, k => by
    refine g_iload_n dX10_isThere_9 rfl 10 rfl rfl ?_
    refine g_iload_n dX10_isThere_10 rfl 11 rfl rfl ?_
    refine g_icmp_gt dX10_isThere_11 46 rfl 14 rfl (fun c => absurd c (nI_nlt (by omega) (by omega))) (fun _ => ?_)
    refine g_iload_n dX10_isThere_14 rfl 15 rfl rfl ?_
    refine g_if_ne dX10_isThere_15 46 rfl 18 rfl (fun c1 => ?_) (fun c1 => ?_)
    · replace c1 := gB_t c1
      refine g_fgt (L' := [.ref 0, .int (nI t), .int (gB u0), gF]) ⟨Or.inl rfl, Or.inl rfl, Or.inl rfl, Or.inr rfl, trivial⟩ ?_
      have e : (fX10_isThere_9 told s t sz) i u0 = (true, u0) := by rw [fX10_isThere_9, if_pos c1]
      rw [gWh_t e] at k
      exact k
    · replace c1 := gB_f c1
      refine g_iload_n dX10_isThere_18 rfl 19 rfl rfl ?_
      refine g_iload_n dX10_isThere_19 rfl 20 rfl rfl ?_
      refine g_iconst (-1) dX10_isThere_20 21 rfl (by decide) ?_
      refine g_ixor dX10_isThere_21 22 rfl ?_
      refine g_iand dX10_isThere_22 23 rfl ?_
      refine g_if_ne dX10_isThere_23 38 rfl 26 rfl (fun c2 => ?_) (fun c2 => ?_)
      · refine g_iconst 0 dX10_isThere_38 39 rfl (by decide) ?_
        refine g_istore2 dX10_isThere_39 40 rfl (by decide) rfl ?_
        refine g_iinc3 dX10_isThere_40 43 rfl 1 (by decide) (nI (i + 1)) (nI_add _ 1) (by decide) rfl ?_
        refine g_goto dX10_isThere_43 9 rfl ?_
        have e : (fX10_isThere_9 told s t sz) i u0 = (false, false) := by rw [fX10_isThere_9, if_neg c1, if_neg c2]
        refine LX10_isThere_9 hsz hs ht d (i + 1) false (by omega) ?_
        rw [gWh_f e] at k
        exact k
      · refine g_aload_n dX10_isThere_26 rfl 27 rfl rfl ?_
        refine g_iload_n dX10_isThere_27 rfl 28 rfl rfl ?_
        refine g_cVv (as := [.int (nI i)]) (st := []) dX10_isThere_28 31 rfl kX10_104 ⟨Nat.le_of_ble_eq_true rfl, Nat.le_of_ble_eq_true rfl⟩ (MX10_sails (nI i) hsz hs) rfl rfl rfl rfl (Nat.le_of_ble_eq_true rfl) (Nat.le_refl _) (Nat.le_refl _) ?_
        refine g_if_eq dX10_isThere_31 38 rfl 34 rfl (fun c3 => ?_) (fun c3 => ?_)
        · replace c3 := gB_f c3
          refine g_iconst 0 dX10_isThere_38 39 rfl (by decide) ?_
          refine g_istore2 dX10_isThere_39 40 rfl (by decide) rfl ?_
          refine g_iinc3 dX10_isThere_40 43 rfl 1 (by decide) (nI (i + 1)) (nI_add _ 1) (by decide) rfl ?_
          refine g_goto dX10_isThere_43 9 rfl ?_
          have e : (fX10_isThere_9 told s t sz) i u0 = (false, false) := by rw [fX10_isThere_9, if_neg c1, if_pos c2, if_neg c3]
          refine LX10_isThere_9 hsz hs ht d (i + 1) false (by omega) ?_
          rw [gWh_f e] at k
          exact k
        · replace c3 := gB_t c3
          refine g_iconst 1 dX10_isThere_34 35 rfl (by decide) ?_
          refine g_goto dX10_isThere_35 39 rfl ?_
          refine g_istore2 dX10_isThere_39 40 rfl (by decide) rfl ?_
          refine g_iinc3 dX10_isThere_40 43 rfl 1 (by decide) (nI (i + 1)) (nI_add _ 1) (by decide) rfl ?_
          refine g_goto dX10_isThere_43 9 rfl ?_
          have e : (fX10_isThere_9 told s t sz) i u0 = (false, true) := by rw [fX10_isThere_9, if_neg c1, if_pos c2, if_pos c3]
          refine LX10_isThere_9 hsz hs ht d (i + 1) true (by omega) ?_
          rw [gWh_f e] at k
          exact k
def rX10_isThere (told : Int32 → Int32) (s : Int32 → Int32) (sz : Nat) : Bool := (gWh (fX10_isThere_9 told s (tP told s sz) sz) ((tP told s sz) + 1 - 1) 1 false)
set_option maxRecDepth 100000 in
set_option maxHeartbeats 4000000 in
theorem MX10_isThere {w : gW} {al : Bool} {typed known kept noted at_ : Int32} {text told draft s past images notes alone parts held : Int32 → Int32} {sz : Nat} (hsz : told 0 = nI sz) (hs : sz ≤ 9)  : M w gT0 al mX10_isThere 0 0 (hM text typed told draft s past known images kept notes noted at_ alone parts held) [.ref 0] (gEq (hM text typed told draft s past known images kept notes noted at_ alone parts held) (some (.int (gB (rX10_isThere told s sz))))) := by
  refine M.of (L0 := [.ref 0, gF, gF, gF]) (by decide +kernel) (Nat.le_of_ble_eq_true rfl) rfl ?_
  refine g_aload_n dX10_isThere_0 rfl 1 rfl rfl ?_
  refine g_cVv (as := []) (st := []) dX10_isThere_1 4 rfl kX10_116 ⟨Nat.le_of_ble_eq_true rfl, Nat.le_of_ble_eq_true rfl⟩ (MX10_present' hsz hs) rfl rfl rfl rfl (Nat.le_of_ble_eq_true rfl) (Nat.le_refl _) (Nat.le_refl _) ?_
  refine g_istore1 dX10_isThere_4 5 rfl (by decide) rfl ?_
  refine g_iconst 0 dX10_isThere_5 6 rfl (by decide) ?_
  refine g_istore2 dX10_isThere_6 7 rfl (by decide) rfl ?_
  refine g_iconst 1 dX10_isThere_7 8 rfl (by decide) ?_
  refine g_istore3 dX10_isThere_8 9 rfl (by decide) rfl ?_
  refine LX10_isThere_9 hsz hs (tP_512 _ _ hs) ((tP told s sz) + 1 - 1) 1 false (by omega) ?_
  refine g_iload_n dX10_isThere_46 rfl 47 rfl rfl ?_
  refine g_ireturn dX10_isThere_47 rfl (gB_nar _) (Nat.le_refl _) (Nat.le_refl _) ?_
  have e : (rX10_isThere told s sz) = (gWh (fX10_isThere_9 told s (tP told s sz) sz) ((tP told s sz) + 1 - 1) 1 false) := by rw [rX10_isThere]
  rw [e]
  exact ⟨rfl, rfl⟩
