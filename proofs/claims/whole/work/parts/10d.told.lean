/-! the reference: what was told, sums, chance, days, quays kept -/
def rX10_tell (told : Int32 → Int32) (notes : Int32 → Int32) (bits : Int32) (sm : Int32) (nd : Nat) : Int32 × (Int32 → Int32) × Nat := (if (rX10_in bits 1 ((1 <<< ((told 0) &&& 31)) - 1)) = true then (if (rX10_in sm 0 999) = true then (if (nI nd) = 5 then ((-3), notes, nd) else ((nI (nd + 1)), (gup notes (nI nd) ((1000 * bits) + sm)), nd + 1)) else ((-1), notes, nd)) else ((-1), notes, nd))
set_option maxRecDepth 100000 in
set_option maxHeartbeats 4000000 in
theorem MX10_tell {w : gW} {al : Bool} {typed known kept at_ : Int32} {text told draft s past images notes alone parts held : Int32 → Int32} {nd : Nat} (bits : Int32) (sm : Int32) (hnd : nd ≤ 5)  : M w gT0 al mX10_tell 0 0 (hM text typed told draft s past known images kept notes (nI nd) at_ alone parts held) [.ref 0, .int bits, .int sm] (gEq (hM text typed told draft s past known images kept ((rX10_tell told notes bits sm nd).2.1) (nI ((rX10_tell told notes bits sm nd).2.2)) at_ alone parts held) (some (.int ((rX10_tell told notes bits sm nd).1)))) := by
  refine M.of (L0 := [.ref 0, .int bits, .int sm]) (by decide +kernel) (Nat.le_of_ble_eq_true rfl) rfl ?_
  refine g_iload_n dX10_tell_0 rfl 1 rfl rfl ?_
  refine g_iconst 1 dX10_tell_1 2 rfl (by decide) ?_
  refine g_iconst 1 dX10_tell_2 3 rfl (by decide) ?_
  refine g_aload_n dX10_tell_3 rfl 4 rfl rfl ?_
  refine g_get (v := .ref 2) dX10_tell_4 7 rfl lX10_13 rfl rfl ?_
  refine g_iconst 0 dX10_tell_7 8 rfl (by decide) ?_
  refine g_iaload (N := 40) dX10_tell_8 9 rfl rfl (vp_in_iff.mpr (by decide)) ?_
  refine g_ishl dX10_tell_9 10 rfl ?_
  refine g_iconst 1 dX10_tell_10 11 rfl (by decide) ?_
  refine g_isub dX10_tell_11 12 rfl ?_
  refine g_cSv (as := [.int bits, .int 1, .int ((1 <<< ((told 0) &&& 31)) - 1)]) (st := []) dX10_tell_12 15 rfl kX10_50 ⟨Nat.le_of_ble_eq_true rfl, Nat.le_of_ble_eq_true rfl⟩ (MX10_in bits 1 ((1 <<< ((told 0) &&& 31)) - 1)) rfl (Nat.le_of_ble_eq_true rfl) (Nat.le_refl _) (Nat.le_refl _) ?_
  refine g_if_eq dX10_tell_15 29 rfl 18 rfl (fun c1 => ?_) (fun c1 => ?_)
  · replace c1 := gB_f c1
    refine g_iconst (-1) dX10_tell_29 30 rfl (by decide) ?_
    refine g_ireturn dX10_tell_30 rfl rfl (Nat.le_refl _) (Nat.le_refl _) ?_
    have e : (rX10_tell told notes bits sm nd) = ((-1), notes, nd) := by rw [rX10_tell, if_neg c1]
    rw [e]
    exact ⟨rfl, rfl⟩
  · replace c1 := gB_t c1
    refine g_iload_n dX10_tell_18 rfl 19 rfl rfl ?_
    refine g_iconst 0 dX10_tell_19 20 rfl (by decide) ?_
    refine g_sipush 999 dX10_tell_20 23 rfl (by decide) ?_
    refine g_cSv (as := [.int sm, .int 0, .int 999]) (st := []) dX10_tell_23 26 rfl kX10_50 ⟨Nat.le_of_ble_eq_true rfl, Nat.le_of_ble_eq_true rfl⟩ (MX10_in sm 0 999) rfl (Nat.le_of_ble_eq_true rfl) (Nat.le_refl _) (Nat.le_refl _) ?_
    refine g_if_ne dX10_tell_26 31 rfl 29 rfl (fun c2 => ?_) (fun c2 => ?_)
    · replace c2 := gB_t c2
      refine g_aload_n dX10_tell_31 rfl 32 rfl rfl ?_
      refine g_get (v := .int (nI nd)) dX10_tell_32 35 rfl lX10_86 rfl rfl ?_
      refine g_iconst 5 dX10_tell_35 36 rfl (by decide) ?_
      refine g_icmp_ne dX10_tell_36 42 rfl 39 rfl (fun c3 => ?_) (fun c3 => ?_)
      · refine g_aload_n dX10_tell_42 rfl 43 rfl rfl ?_
        refine g_get (v := .ref 7) dX10_tell_43 46 rfl lX10_28 rfl rfl ?_
        refine g_aload_n dX10_tell_46 rfl 47 rfl rfl ?_
        refine g_get (v := .int (nI nd)) dX10_tell_47 50 rfl lX10_86 rfl rfl ?_
        refine g_sipush 1000 dX10_tell_50 53 rfl (by decide) ?_
        refine g_iload_n dX10_tell_53 rfl 54 rfl rfl ?_
        refine g_imul dX10_tell_54 55 rfl ?_
        refine g_iload_n dX10_tell_55 rfl 56 rfl rfl ?_
        refine g_iadd dX10_tell_56 57 rfl ?_
        refine g_iastore (N := 5) dX10_tell_57 58 rfl rfl (by decide) (vp_in_nI (by have q : nd ≠ 5 := fun z => c3 (by rw [z]; rfl); omega) (by decide)) (h' := (hM text typed told draft s past known images kept (gup notes (nI nd) ((1000 * bits) + sm)) (nI nd) at_ alone parts held)) rfl ?_
        refine g_aload_n dX10_tell_58 rfl 59 rfl rfl ?_
        refine g_dup dX10_tell_59 60 rfl rfl ?_
        refine g_get (v := .int (nI nd)) dX10_tell_60 63 rfl lX10_86 rfl rfl ?_
        refine g_iconst 1 dX10_tell_63 64 rfl (by decide) ?_
        refine g_iadd' dX10_tell_64 65 rfl (nI (nd + 1)) (nI_add _ 1) ?_
        refine g_put dX10_tell_65 68 rfl lX10_86 wrX10 rfl rfl rfl rfl rfl (Nat.le_of_ble_eq_true rfl) (h' := (hM text typed told draft s past known images kept (gup notes (nI nd) ((1000 * bits) + sm)) (nI (nd + 1)) at_ alone parts held)) rfl ?_
        refine g_aload_n dX10_tell_68 rfl 69 rfl rfl ?_
        refine g_get (v := .int (nI (nd + 1))) dX10_tell_69 72 rfl lX10_86 rfl rfl ?_
        refine g_ireturn dX10_tell_72 rfl rfl (Nat.le_refl _) (Nat.le_refl _) ?_
        have e : (rX10_tell told notes bits sm nd) = ((nI (nd + 1)), (gup notes (nI nd) ((1000 * bits) + sm)), nd + 1) := by rw [rX10_tell, if_pos c1, if_pos c2, if_neg c3]
        rw [e]
        exact ⟨rfl, rfl⟩
      · refine g_bipush (-3) dX10_tell_39 41 rfl (by decide) ?_
        refine g_ireturn dX10_tell_41 rfl rfl (Nat.le_refl _) (Nat.le_refl _) ?_
        have e : (rX10_tell told notes bits sm nd) = ((-3), notes, nd) := by rw [rX10_tell, if_pos c1, if_pos c2, if_pos c3]
        rw [e]
        exact ⟨rfl, rfl⟩
    · replace c2 := gB_f c2
      refine g_iconst (-1) dX10_tell_29 30 rfl (by decide) ?_
      refine g_ireturn dX10_tell_30 rfl rfl (Nat.le_refl _) (Nat.le_refl _) ?_
      have e : (rX10_tell told notes bits sm nd) = ((-1), notes, nd) := by rw [rX10_tell, if_pos c1, if_neg c2]
      rw [e]
      exact ⟨rfl, rfl⟩
def rX10_forget (noted : Int32) : Int32 × Int32 := (noted, 0)
set_option maxRecDepth 100000 in
set_option maxHeartbeats 4000000 in
theorem MX10_forget {w : gW} {al : Bool} {typed known kept noted at_ : Int32} {text told draft s past images notes alone parts held : Int32 → Int32}   : M w gT0 al mX10_forget 0 0 (hM text typed told draft s past known images kept notes noted at_ alone parts held) [.ref 0] (gEq (hM text typed told draft s past known images kept notes ((rX10_forget noted).2) at_ alone parts held) (some (.int ((rX10_forget noted).1)))) := by
  refine M.of (L0 := [.ref 0, gF]) (by decide +kernel) (Nat.le_of_ble_eq_true rfl) rfl ?_
  refine g_aload_n dX10_forget_0 rfl 1 rfl rfl ?_
  refine g_get (v := .int noted) dX10_forget_1 4 rfl lX10_86 rfl rfl ?_
  refine g_istore1 dX10_forget_4 5 rfl (by decide) rfl ?_
  refine g_aload_n dX10_forget_5 rfl 6 rfl rfl ?_
  refine g_iconst 0 dX10_forget_6 7 rfl (by decide) ?_
  refine g_put dX10_forget_7 10 rfl lX10_86 wrX10 rfl rfl rfl rfl rfl (Nat.le_of_ble_eq_true rfl) (h' := (hM text typed told draft s past known images kept notes 0 at_ alone parts held)) rfl ?_
  refine g_iload_n dX10_forget_10 rfl 11 rfl rfl ?_
  refine g_ireturn dX10_forget_11 rfl rfl (Nat.le_refl _) (Nat.le_refl _) ?_
  have e : (rX10_forget noted) = (noted, 0) := by rw [rX10_forget]
  rw [e]
  exact ⟨rfl, rfl⟩
def fX10_isSo_20 (told : Int32 → Int32) (notes : Int32 → Int32) (p : Int32) (ag : Int32) (kk : Nat) : Nat → (Int32) → (Int32)
  | i, u0 => (if ((((notes (nI kk)) / 1000) >>> ((nI i) &&& 31)) &&& 1) = 0 then (u0 + 0) else (if (nI i) = p then (u0 + ag) else (u0 + (told (nI (13 + i))))))
set_option maxRecDepth 100000 in
set_option maxHeartbeats 4000000 in
theorem LX10_isSo_20 {w : gW} {al : Bool} {typed known kept noted at_ : Int32} {text told draft s past images notes alone parts held : Int32 → Int32} {n : Nat} {P : gP} {sz : Nat} {p : Int32} {ag : Int32} {kk : Nat} {u9 : Bool} (hsz : told 0 = nI sz) (hs : sz ≤ 9) (hkk : kk < 5)  : ∀ (d i : Nat) (u0 : Int32), i + d = sz → G w gT0 al n mX10_isSo 0 0 P 0 0 (hM text typed told draft s past known images kept notes noted at_ alone parts held) 85 [.ref 0, .int p, .int ag, .int (gB u9), .int (nI kk), .int (gLp (fX10_isSo_20 told notes p ag kk) d i u0), .int (nI sz)] [] → G w gT0 al n mX10_isSo 0 0 P 0 0 (hM text typed told draft s past known images kept notes noted at_ alone parts held) 20 [.ref 0, .int p, .int ag, .int (gB u9), .int (nI kk), .int u0, .int (nI i)] []
  | 0, i, u0, hi, k => by
    have hN : i = sz := by omega
    rw [hN]
    rw [hN] at k
    refine g_iload dX10_isSo_20 22 rfl rfl ?_
    refine g_aload_n dX10_isSo_22 rfl 23 rfl rfl ?_
    refine g_get (v := .ref 2) dX10_isSo_23 26 rfl lX10_13 rfl rfl ?_
    refine g_iconst 0 dX10_isSo_26 27 rfl (by decide) ?_
    refine g_iaload (N := 40) dX10_isSo_27 28 rfl rfl (vp_in_iff.mpr (by decide)) ?_
    refine g_icmp_ge dX10_isSo_28 85 rfl 31 rfl (fun _ => ?_) (fun c => absurd (by rw [hsz]; exact nI_le (Nat.le_refl _) (by omega)) c)
    exact k
  | d + 1, i, u0, hi, k => by
    refine g_iload dX10_isSo_20 22 rfl rfl ?_
    refine g_aload_n dX10_isSo_22 rfl 23 rfl rfl ?_
    refine g_get (v := .ref 2) dX10_isSo_23 26 rfl lX10_13 rfl rfl ?_
    refine g_iconst 0 dX10_isSo_26 27 rfl (by decide) ?_
    refine g_iaload (N := 40) dX10_isSo_27 28 rfl rfl (vp_in_iff.mpr (by decide)) ?_
    refine g_icmp_ge dX10_isSo_28 85 rfl 31 rfl (fun c => absurd c (by rw [hsz]; exact nI_ge (by omega) (by omega))) (fun _ => ?_)
    refine g_iload dX10_isSo_31 33 rfl rfl ?_
    refine g_aload_n dX10_isSo_33 rfl 34 rfl rfl ?_
    refine g_get (v := .ref 7) dX10_isSo_34 37 rfl lX10_28 rfl rfl ?_
    refine g_iload dX10_isSo_37 39 rfl rfl ?_
    refine g_iaload (N := 5) dX10_isSo_39 40 rfl rfl (vp_in_nI (by omega) (by decide)) ?_
    refine g_sipush 1000 dX10_isSo_40 43 rfl (by decide) ?_
    refine g_idiv dX10_isSo_43 44 rfl (by decide) ?_
    refine g_iload dX10_isSo_44 46 rfl rfl ?_
    refine g_ishr dX10_isSo_46 47 rfl ?_
    refine g_iconst 1 dX10_isSo_47 48 rfl (by decide) ?_
    refine g_iand dX10_isSo_48 49 rfl ?_
    refine g_if_ne dX10_isSo_49 56 rfl 52 rfl (fun c1 => ?_) (fun c1 => ?_)
    · refine g_iload dX10_isSo_56 58 rfl rfl ?_
      refine g_iload_n dX10_isSo_58 rfl 59 rfl rfl ?_
      refine g_icmp_ne dX10_isSo_59 66 rfl 62 rfl (fun c2 => ?_) (fun c2 => ?_)
      · refine g_aload_n dX10_isSo_66 rfl 67 rfl rfl ?_
        refine g_get (v := .ref 2) dX10_isSo_67 70 rfl lX10_13 rfl rfl ?_
        refine g_bipush 13 dX10_isSo_70 72 rfl (by decide) ?_
        refine g_iload dX10_isSo_72 74 rfl rfl ?_
        refine g_iadd' dX10_isSo_74 75 rfl (nI (13 + i)) (nI_add 13 _) ?_
        refine g_iaload (N := 40) dX10_isSo_75 76 rfl rfl (vp_in_nI (by omega) (by decide)) ?_
        refine g_iadd dX10_isSo_76 77 rfl ?_
        refine g_istore5 dX10_isSo_77 79 rfl (by decide) rfl ?_
        refine g_iinc6 dX10_isSo_79 82 rfl 1 (by decide) (nI (i + 1)) (nI_add _ 1) (by decide) rfl ?_
        refine g_goto dX10_isSo_82 20 rfl ?_
        have e : (fX10_isSo_20 told notes p ag kk) i u0 = (u0 + (told (nI (13 + i)))) := by rw [fX10_isSo_20, if_neg c1, if_neg c2]
        refine LX10_isSo_20 hsz hs hkk d (i + 1) (u0 + (told (nI (13 + i)))) (by omega) ?_
        rw [← e]
        exact k
      · refine g_iload_n dX10_isSo_62 rfl 63 rfl rfl ?_
        refine g_goto dX10_isSo_63 76 rfl ?_
        refine g_iadd dX10_isSo_76 77 rfl ?_
        refine g_istore5 dX10_isSo_77 79 rfl (by decide) rfl ?_
        refine g_iinc6 dX10_isSo_79 82 rfl 1 (by decide) (nI (i + 1)) (nI_add _ 1) (by decide) rfl ?_
        refine g_goto dX10_isSo_82 20 rfl ?_
        have e : (fX10_isSo_20 told notes p ag kk) i u0 = (u0 + ag) := by rw [fX10_isSo_20, if_neg c1, if_pos c2]
        refine LX10_isSo_20 hsz hs hkk d (i + 1) (u0 + ag) (by omega) ?_
        rw [← e]
        exact k
    · refine g_iconst 0 dX10_isSo_52 53 rfl (by decide) ?_
      refine g_goto dX10_isSo_53 76 rfl ?_
      refine g_iadd dX10_isSo_76 77 rfl ?_
      refine g_istore5 dX10_isSo_77 79 rfl (by decide) rfl ?_
      refine g_iinc6 dX10_isSo_79 82 rfl 1 (by decide) (nI (i + 1)) (nI_add _ 1) (by decide) rfl ?_
      refine g_goto dX10_isSo_82 20 rfl ?_
      have e : (fX10_isSo_20 told notes p ag kk) i u0 = (u0 + 0) := by rw [fX10_isSo_20, if_pos c1]
      refine LX10_isSo_20 hsz hs hkk d (i + 1) (u0 + 0) (by omega) ?_
      rw [← e]
      exact k
def fX10_isSo_5 (told : Int32 → Int32) (notes : Int32 → Int32) (p : Int32) (ag : Int32) (sz : Nat) : Nat → (Bool) → (Bool)
  | i, u9 => (if u9 = true then (if (gLp (fX10_isSo_20 told notes p ag i) sz 0 0) = ((notes (nI i)) - (notes (nI i)) / 1000 * 1000) then true else false) else false)
set_option maxRecDepth 100000 in
set_option maxHeartbeats 4000000 in
theorem LX10_isSo_5 {w : gW} {al : Bool} {typed known kept at_ : Int32} {text told draft s past images notes alone parts held : Int32 → Int32} {n : Nat} {P : gP} {sz nd : Nat} {p : Int32} {ag : Int32} (hsz : told 0 = nI sz) (hs : sz ≤ 9) (hnd : nd ≤ 5)  : ∀ (d i : Nat) (u9 : Bool), i + d = nd → G w gT0 al n mX10_isSo 0 0 P 0 0 (hM text typed told draft s past known images kept notes (nI nd) at_ alone parts held) 117 [.ref 0, .int p, .int ag, .int (gB (gLp (fX10_isSo_5 told notes p ag sz) d i u9)), .int (nI nd), gF, gF] [] → G w gT0 al n mX10_isSo 0 0 P 0 0 (hM text typed told draft s past known images kept notes (nI nd) at_ alone parts held) 5 [.ref 0, .int p, .int ag, .int (gB u9), .int (nI i), gF, gF] []
  | 0, i, u9, hi, k => by
    have hN : i = nd := by omega
    rw [hN]
    rw [hN] at k
    refine g_iload dX10_isSo_5 7 rfl rfl ?_
    refine g_aload_n dX10_isSo_7 rfl 8 rfl rfl ?_
    refine g_get (v := .int (nI nd)) dX10_isSo_8 11 rfl lX10_86 rfl rfl ?_
    refine g_icmp_ge dX10_isSo_11 117 rfl 14 rfl (fun _ => ?_) (fun c => absurd (nI_le (Nat.le_refl _) (by omega)) c)
    exact k
  | d + 1, i, u9, hi, k => by
    refine g_iload dX10_isSo_5 7 rfl rfl ?_
    refine g_aload_n dX10_isSo_7 rfl 8 rfl rfl ?_
    refine g_get (v := .int (nI nd)) dX10_isSo_8 11 rfl lX10_86 rfl rfl ?_
    refine g_icmp_ge dX10_isSo_11 117 rfl 14 rfl (fun c => absurd c (nI_ge (by omega) (by omega))) (fun _ => ?_)
    refine g_iconst 0 dX10_isSo_14 15 rfl (by decide) ?_
    refine g_istore5 dX10_isSo_15 17 rfl (by decide) rfl ?_
    refine g_iconst 0 dX10_isSo_17 18 rfl (by decide) ?_
    refine g_istore6 dX10_isSo_18 20 rfl (by decide) rfl ?_
    refine LX10_isSo_20 hsz hs (by omega) sz 0 0 (by omega) ?_
    refine g_iload_n dX10_isSo_85 rfl 86 rfl rfl ?_
    refine g_if_eq dX10_isSo_86 109 rfl 89 rfl (fun c1 => ?_) (fun c1 => ?_)
    · replace c1 := gB_f c1
      refine g_iconst 0 dX10_isSo_109 110 rfl (by decide) ?_
      refine g_istore3 dX10_isSo_110 111 rfl (by decide) rfl ?_
      refine g_iinc4 dX10_isSo_111 114 rfl 1 (by decide) (nI (i + 1)) (nI_add _ 1) (by decide) rfl ?_
      refine g_goto dX10_isSo_114 5 rfl ?_
      refine g_fgt (L' := [.ref 0, .int p, .int ag, .int (gB false), .int (nI (i + 1)), gF, gF]) ⟨Or.inl rfl, Or.inl rfl, Or.inl rfl, Or.inl rfl, Or.inl rfl, Or.inr rfl, Or.inr rfl, trivial⟩ ?_
      have e : (fX10_isSo_5 told notes p ag sz) i u9 = false := by rw [fX10_isSo_5, if_neg c1]
      refine LX10_isSo_5 hsz hs hnd d (i + 1) false (by omega) ?_
      rw [← e]
      exact k
    · replace c1 := gB_t c1
      refine g_iload dX10_isSo_89 91 rfl rfl ?_
      refine g_aload_n dX10_isSo_91 rfl 92 rfl rfl ?_
      refine g_get (v := .ref 7) dX10_isSo_92 95 rfl lX10_28 rfl rfl ?_
      refine g_iload dX10_isSo_95 97 rfl rfl ?_
      refine g_iaload (N := 5) dX10_isSo_97 98 rfl rfl (vp_in_nI (by omega) (by decide)) ?_
      refine g_sipush 1000 dX10_isSo_98 101 rfl (by decide) ?_
      refine g_irem dX10_isSo_101 102 rfl (by decide) ?_
      refine g_icmp_ne dX10_isSo_102 109 rfl 105 rfl (fun c2 => ?_) (fun c2 => ?_)
      · refine g_iconst 0 dX10_isSo_109 110 rfl (by decide) ?_
        refine g_istore3 dX10_isSo_110 111 rfl (by decide) rfl ?_
        refine g_iinc4 dX10_isSo_111 114 rfl 1 (by decide) (nI (i + 1)) (nI_add _ 1) (by decide) rfl ?_
        refine g_goto dX10_isSo_114 5 rfl ?_
        refine g_fgt (L' := [.ref 0, .int p, .int ag, .int (gB false), .int (nI (i + 1)), gF, gF]) ⟨Or.inl rfl, Or.inl rfl, Or.inl rfl, Or.inl rfl, Or.inl rfl, Or.inr rfl, Or.inr rfl, trivial⟩ ?_
        have e : (fX10_isSo_5 told notes p ag sz) i u9 = false := by rw [fX10_isSo_5, if_pos c1, if_neg c2]
        refine LX10_isSo_5 hsz hs hnd d (i + 1) false (by omega) ?_
        rw [← e]
        exact k
      · refine g_iconst 1 dX10_isSo_105 106 rfl (by decide) ?_
        refine g_goto dX10_isSo_106 110 rfl ?_
        refine g_istore3 dX10_isSo_110 111 rfl (by decide) rfl ?_
        refine g_iinc4 dX10_isSo_111 114 rfl 1 (by decide) (nI (i + 1)) (nI_add _ 1) (by decide) rfl ?_
        refine g_goto dX10_isSo_114 5 rfl ?_
        refine g_fgt (L' := [.ref 0, .int p, .int ag, .int (gB true), .int (nI (i + 1)), gF, gF]) ⟨Or.inl rfl, Or.inl rfl, Or.inl rfl, Or.inl rfl, Or.inl rfl, Or.inr rfl, Or.inr rfl, trivial⟩ ?_
        have e : (fX10_isSo_5 told notes p ag sz) i u9 = true := by rw [fX10_isSo_5, if_pos c1, if_pos c2]
        refine LX10_isSo_5 hsz hs hnd d (i + 1) true (by omega) ?_
        rw [← e]
        exact k
def rX10_isSo (told : Int32 → Int32) (notes : Int32 → Int32) (p : Int32) (ag : Int32) (sz : Nat) (nd : Nat) : Bool := (gLp (fX10_isSo_5 told notes p ag sz) nd 0 true)
set_option maxRecDepth 100000 in
set_option maxHeartbeats 4000000 in
theorem MX10_isSo {w : gW} {al : Bool} {typed known kept at_ : Int32} {text told draft s past images notes alone parts held : Int32 → Int32} {sz nd : Nat} (p : Int32) (ag : Int32) (hsz : told 0 = nI sz) (hs : sz ≤ 9) (hnd : nd ≤ 5)  : M w gT0 al mX10_isSo 0 0 (hM text typed told draft s past known images kept notes (nI nd) at_ alone parts held) [.ref 0, .int p, .int ag] (gEq (hM text typed told draft s past known images kept notes (nI nd) at_ alone parts held) (some (.int (gB (rX10_isSo told notes p ag sz nd))))) := by
  refine M.of (L0 := [.ref 0, .int p, .int ag, gF, gF, gF, gF]) (by decide +kernel) (Nat.le_of_ble_eq_true rfl) rfl ?_
  refine g_iconst 1 dX10_isSo_0 1 rfl (by decide) ?_
  refine g_istore3 dX10_isSo_1 2 rfl (by decide) rfl ?_
  refine g_iconst 0 dX10_isSo_2 3 rfl (by decide) ?_
  refine g_istore4 dX10_isSo_3 5 rfl (by decide) rfl ?_
  refine LX10_isSo_5 hsz hs (by omega) nd 0 true (by omega) ?_
  refine g_iload_n dX10_isSo_117 rfl 118 rfl rfl ?_
  refine g_ireturn dX10_isSo_118 rfl (gB_nar _) (Nat.le_refl _) (Nat.le_refl _) ?_
  have e : (rX10_isSo told notes p ag sz nd) = (gLp (fX10_isSo_5 told notes p ag sz) nd 0 true) := by rw [rX10_isSo]
  rw [e]
  exact ⟨rfl, rfl⟩
def fX10_liar_37 (told : Int32 → Int32) (notes : Int32 → Int32) (p : Nat) (sz : Nat) (nd : Nat) : Nat → (Int32) → (Int32)
  | i, u0 => (if (nI i) = (told (nI (13 + p))) then (u0 ||| 0) else (if (rX10_isSo told notes (nI p) (nI i) sz nd) = true then (u0 ||| (1 <<< ((nI p) &&& 31))) else (u0 ||| 0)))
set_option maxRecDepth 100000 in
set_option maxHeartbeats 4000000 in
theorem LX10_liar_37 {w : gW} {al : Bool} {typed known kept at_ : Int32} {text told draft s past images notes alone parts held : Int32 → Int32} {n : Nat} {P : gP} {sz nd : Nat} {p : Nat} (hsz : told 0 = nI sz) (hs : sz ≤ 9) (hnd : nd ≤ 5) (hp : p < 9)  : ∀ (d i : Nat) (u0 : Int32), i + d = 100 → G w gT0 al n mX10_liar 0 0 P 0 0 (hM text typed told draft s past known images kept notes (nI nd) at_ alone parts held) 81 [.ref 0, .int (gLp (fX10_liar_37 told notes p sz nd) d i u0), .int (nI p), .int (nI 100)] [] → G w gT0 al n mX10_liar 0 0 P 0 0 (hM text typed told draft s past known images kept notes (nI nd) at_ alone parts held) 37 [.ref 0, .int u0, .int (nI p), .int (nI i)] []
  | 0, i, u0, hi, k => by
    have hN : i = 100 := by omega
    rw [hN]
    rw [hN] at k
    refine g_iload_n dX10_liar_37 rfl 38 rfl rfl ?_
    refine g_bipush 100 dX10_liar_38 40 rfl (by decide) ?_
    refine g_icmp_ge dX10_liar_40 81 rfl 43 rfl (fun _ => ?_) (fun c => absurd (nI_le (a := 100) (b := 100) (by omega) (by omega)) c)
    exact k
  | d + 1, i, u0, hi, k => by
    refine g_iload_n dX10_liar_37 rfl 38 rfl rfl ?_
    refine g_bipush 100 dX10_liar_38 40 rfl (by decide) ?_
    refine g_icmp_ge dX10_liar_40 81 rfl 43 rfl (fun c => absurd c (nI_ge (a := i) (b := 100) (by omega) (by omega))) (fun _ => ?_)
    refine g_iload_n dX10_liar_43 rfl 44 rfl rfl ?_
    refine g_iload_n dX10_liar_44 rfl 45 rfl rfl ?_
    refine g_aload_n dX10_liar_45 rfl 46 rfl rfl ?_
    refine g_get (v := .ref 2) dX10_liar_46 49 rfl lX10_13 rfl rfl ?_
    refine g_bipush 13 dX10_liar_49 51 rfl (by decide) ?_
    refine g_iload_n dX10_liar_51 rfl 52 rfl rfl ?_
    refine g_iadd' dX10_liar_52 53 rfl (nI (13 + p)) (nI_add 13 _) ?_
    refine g_iaload (N := 40) dX10_liar_53 54 rfl rfl (vp_in_nI (by omega) (by decide)) ?_
    refine g_icmp_eq dX10_liar_54 72 rfl 57 rfl (fun c1 => ?_) (fun c1 => ?_)
    · refine g_iconst 0 dX10_liar_72 73 rfl (by decide) ?_
      refine g_ior dX10_liar_73 74 rfl ?_
      refine g_istore1 dX10_liar_74 75 rfl (by decide) rfl ?_
      refine g_iinc3 dX10_liar_75 78 rfl 1 (by decide) (nI (i + 1)) (nI_add _ 1) (by decide) rfl ?_
      refine g_goto dX10_liar_78 37 rfl ?_
      have e : (fX10_liar_37 told notes p sz nd) i u0 = (u0 ||| 0) := by rw [fX10_liar_37, if_pos c1]
      refine LX10_liar_37 hsz hs hnd hp d (i + 1) (u0 ||| 0) (by omega) ?_
      rw [← e]
      exact k
    · refine g_aload_n dX10_liar_57 rfl 58 rfl rfl ?_
      refine g_iload_n dX10_liar_58 rfl 59 rfl rfl ?_
      refine g_iload_n dX10_liar_59 rfl 60 rfl rfl ?_
      refine g_cVv (as := [.int (nI p), .int (nI i)]) (st := [.int u0]) dX10_liar_60 63 rfl kX10_134 ⟨Nat.le_of_ble_eq_true rfl, Nat.le_of_ble_eq_true rfl⟩ (MX10_isSo (nd := nd) (nI p) (nI i) hsz hs (by omega)) rfl rfl rfl rfl (Nat.le_of_ble_eq_true rfl) (Nat.le_refl _) (Nat.le_refl _) ?_
      refine g_if_eq dX10_liar_63 72 rfl 66 rfl (fun c2 => ?_) (fun c2 => ?_)
      · replace c2 := gB_f c2
        refine g_iconst 0 dX10_liar_72 73 rfl (by decide) ?_
        refine g_ior dX10_liar_73 74 rfl ?_
        refine g_istore1 dX10_liar_74 75 rfl (by decide) rfl ?_
        refine g_iinc3 dX10_liar_75 78 rfl 1 (by decide) (nI (i + 1)) (nI_add _ 1) (by decide) rfl ?_
        refine g_goto dX10_liar_78 37 rfl ?_
        have e : (fX10_liar_37 told notes p sz nd) i u0 = (u0 ||| 0) := by rw [fX10_liar_37, if_neg c1, if_neg c2]
        refine LX10_liar_37 hsz hs hnd hp d (i + 1) (u0 ||| 0) (by omega) ?_
        rw [← e]
        exact k
      · replace c2 := gB_t c2
        refine g_iconst 1 dX10_liar_66 67 rfl (by decide) ?_
        refine g_iload_n dX10_liar_67 rfl 68 rfl rfl ?_
        refine g_ishl dX10_liar_68 69 rfl ?_
        refine g_goto dX10_liar_69 73 rfl ?_
        refine g_ior dX10_liar_73 74 rfl ?_
        refine g_istore1 dX10_liar_74 75 rfl (by decide) rfl ?_
        refine g_iinc3 dX10_liar_75 78 rfl 1 (by decide) (nI (i + 1)) (nI_add _ 1) (by decide) rfl ?_
        refine g_goto dX10_liar_78 37 rfl ?_
        have e : (fX10_liar_37 told notes p sz nd) i u0 = (u0 ||| (1 <<< ((nI p) &&& 31))) := by rw [fX10_liar_37, if_neg c1, if_pos c2]
        refine LX10_liar_37 hsz hs hnd hp d (i + 1) (u0 ||| (1 <<< ((nI p) &&& 31))) (by omega) ?_
        rw [← e]
        exact k
def fX10_liar_25 (told : Int32 → Int32) (notes : Int32 → Int32) (sz : Nat) (nd : Nat) : Nat → (Int32) → (Int32)
  | i, u0 => (gLp (fX10_liar_37 told notes i sz nd) 100 0 u0)
set_option maxRecDepth 100000 in
set_option maxHeartbeats 4000000 in
theorem LX10_liar_25 {w : gW} {al : Bool} {typed known kept at_ : Int32} {text told draft s past images notes alone parts held : Int32 → Int32} {n : Nat} {P : gP} {sz nd : Nat} (hsz : told 0 = nI sz) (hs : sz ≤ 9) (hnd : nd ≤ 5)  : ∀ (d i : Nat) (u0 : Int32), i + d = sz → G w gT0 al n mX10_liar 0 0 P 0 0 (hM text typed told draft s past known images kept notes (nI nd) at_ alone parts held) 87 [.ref 0, .int (gLp (fX10_liar_25 told notes sz nd) d i u0), .int (nI sz), gF] [] → G w gT0 al n mX10_liar 0 0 P 0 0 (hM text typed told draft s past known images kept notes (nI nd) at_ alone parts held) 25 [.ref 0, .int u0, .int (nI i), gF] []
  | 0, i, u0, hi, k => by
    have hN : i = sz := by omega
    rw [hN]
    rw [hN] at k
    refine g_iload_n dX10_liar_25 rfl 26 rfl rfl ?_
    refine g_aload_n dX10_liar_26 rfl 27 rfl rfl ?_
    refine g_get (v := .ref 2) dX10_liar_27 30 rfl lX10_13 rfl rfl ?_
    refine g_iconst 0 dX10_liar_30 31 rfl (by decide) ?_
    refine g_iaload (N := 40) dX10_liar_31 32 rfl rfl (vp_in_iff.mpr (by decide)) ?_
    refine g_icmp_ge dX10_liar_32 87 rfl 35 rfl (fun _ => ?_) (fun c => absurd (by rw [hsz]; exact nI_le (Nat.le_refl _) (by omega)) c)
    exact k
  | d + 1, i, u0, hi, k => by
    refine g_iload_n dX10_liar_25 rfl 26 rfl rfl ?_
    refine g_aload_n dX10_liar_26 rfl 27 rfl rfl ?_
    refine g_get (v := .ref 2) dX10_liar_27 30 rfl lX10_13 rfl rfl ?_
    refine g_iconst 0 dX10_liar_30 31 rfl (by decide) ?_
    refine g_iaload (N := 40) dX10_liar_31 32 rfl rfl (vp_in_iff.mpr (by decide)) ?_
    refine g_icmp_ge dX10_liar_32 87 rfl 35 rfl (fun c => absurd c (by rw [hsz]; exact nI_ge (by omega) (by omega))) (fun _ => ?_)
    refine g_iconst 0 dX10_liar_35 36 rfl (by decide) ?_
    refine g_istore3 dX10_liar_36 37 rfl (by decide) rfl ?_
    refine LX10_liar_37 hsz hs (by omega) (by omega) 100 0 u0 (by omega) ?_
    refine g_iinc2 dX10_liar_81 84 rfl 1 (by decide) (nI (i + 1)) (nI_add _ 1) (by decide) rfl ?_
    refine g_goto dX10_liar_84 25 rfl ?_
    refine g_fgt (L' := [.ref 0, .int (gLp (fX10_liar_37 told notes i sz nd) 100 0 u0), .int (nI (i + 1)), gF]) ⟨Or.inl rfl, Or.inl rfl, Or.inl rfl, Or.inr rfl, trivial⟩ ?_
    have e : (fX10_liar_25 told notes sz nd) i u0 = (gLp (fX10_liar_37 told notes i sz nd) 100 0 u0) := by rw [fX10_liar_25]
    refine LX10_liar_25 hsz hs hnd d (i + 1) (gLp (fX10_liar_37 told notes i sz nd) 100 0 u0) (by omega) ?_
    rw [← e]
    exact k
def rX10_liar (told : Int32 → Int32) (notes : Int32 → Int32) (sz : Nat) (nd : Nat) : Int32 := (if (rX10_isSo told notes 0 (told 13) sz nd) = true then (gLp (fX10_liar_25 told notes sz nd) sz 0 512) else (gLp (fX10_liar_25 told notes sz nd) sz 0 0))
set_option maxRecDepth 100000 in
set_option maxHeartbeats 4000000 in
theorem MX10_liar {w : gW} {al : Bool} {typed known kept at_ : Int32} {text told draft s past images notes alone parts held : Int32 → Int32} {sz nd : Nat} (hsz : told 0 = nI sz) (hs : sz ≤ 9) (hnd : nd ≤ 5)  : M w gT0 al mX10_liar 0 0 (hM text typed told draft s past known images kept notes (nI nd) at_ alone parts held) [.ref 0] (gEq (hM text typed told draft s past known images kept notes (nI nd) at_ alone parts held) (some (.int (rX10_liar told notes sz nd)))) := by
  refine M.of (L0 := [.ref 0, gF, gF, gF]) (by decide +kernel) (Nat.le_of_ble_eq_true rfl) rfl ?_
  refine g_aload_n dX10_liar_0 rfl 1 rfl rfl ?_
  refine g_iconst 0 dX10_liar_1 2 rfl (by decide) ?_
  refine g_aload_n dX10_liar_2 rfl 3 rfl rfl ?_
  refine g_get (v := .ref 2) dX10_liar_3 6 rfl lX10_13 rfl rfl ?_
  refine g_bipush 13 dX10_liar_6 8 rfl (by decide) ?_
  refine g_iaload (N := 40) dX10_liar_8 9 rfl rfl (vp_in_iff.mpr (by decide)) ?_
  refine g_cVv (as := [.int 0, .int (told 13)]) (st := []) dX10_liar_9 12 rfl kX10_134 ⟨Nat.le_of_ble_eq_true rfl, Nat.le_of_ble_eq_true rfl⟩ (MX10_isSo (nd := nd) 0 (told 13) hsz hs (by omega)) rfl rfl rfl rfl (Nat.le_of_ble_eq_true rfl) (Nat.le_refl _) (Nat.le_refl _) ?_
  refine g_if_eq dX10_liar_12 21 rfl 15 rfl (fun c1 => ?_) (fun c1 => ?_)
  · replace c1 := gB_f c1
    refine g_iconst 0 dX10_liar_21 22 rfl (by decide) ?_
    refine g_istore1 dX10_liar_22 23 rfl (by decide) rfl ?_
    refine g_iconst 0 dX10_liar_23 24 rfl (by decide) ?_
    refine g_istore2 dX10_liar_24 25 rfl (by decide) rfl ?_
    refine LX10_liar_25 hsz hs (by omega) sz 0 0 (by omega) ?_
    refine g_iload_n dX10_liar_87 rfl 88 rfl rfl ?_
    refine g_ireturn dX10_liar_88 rfl rfl (Nat.le_refl _) (Nat.le_refl _) ?_
    have e : (rX10_liar told notes sz nd) = (gLp (fX10_liar_25 told notes sz nd) sz 0 0) := by rw [rX10_liar, if_neg c1]
    rw [e]
    exact ⟨rfl, rfl⟩
  · replace c1 := gB_t c1
    refine g_sipush 512 dX10_liar_15 18 rfl (by decide) ?_
    refine g_goto dX10_liar_18 22 rfl ?_
    refine g_istore1 dX10_liar_22 23 rfl (by decide) rfl ?_
    refine g_iconst 0 dX10_liar_23 24 rfl (by decide) ?_
    refine g_istore2 dX10_liar_24 25 rfl (by decide) rfl ?_
    refine LX10_liar_25 hsz hs (by omega) sz 0 512 (by omega) ?_
    refine g_iload_n dX10_liar_87 rfl 88 rfl rfl ?_
    refine g_ireturn dX10_liar_88 rfl rfl (Nat.le_refl _) (Nat.le_refl _) ?_
    have e : (rX10_liar told notes sz nd) = (gLp (fX10_liar_25 told notes sz nd) sz 0 512) := by rw [rX10_liar, if_pos c1]
    rw [e]
    exact ⟨rfl, rfl⟩
def fX10_age_29 (told : Int32 → Int32) (notes : Int32 → Int32) (p : Int32) (sz : Nat) (nd : Nat) : Nat → (Int32 × Int32) → (Int32 × Int32)
  | i, (u0, u1) => (if (rX10_isSo told notes p (nI i) sz nd) = true then (if u0 = (-4) then ((nI i), (nI i)) else (u0, (nI i))) else (u0, u1))
set_option maxRecDepth 100000 in
set_option maxHeartbeats 4000000 in
theorem LX10_age_29 {w : gW} {al : Bool} {typed known kept at_ : Int32} {text told draft s past images notes alone parts held : Int32 → Int32} {n : Nat} {P : gP} {sz nd : Nat} {p : Int32} {what : Int32} (hsz : told 0 = nI sz) (hs : sz ≤ 9) (hnd : nd ≤ 5)  : ∀ (d i : Nat) (u0 : Int32) (u1 : Int32), i + d = 100 → G w gT0 al n mX10_age 0 0 P 0 0 (hM text typed told draft s past known images kept notes (nI nd) at_ alone parts held) 69 [.ref 0, .int p, .int what, .int ((gLp (fX10_age_29 told notes p sz nd) d i (u0, u1)).1), .int ((gLp (fX10_age_29 told notes p sz nd) d i (u0, u1)).2), .int (nI 100)] [] → G w gT0 al n mX10_age 0 0 P 0 0 (hM text typed told draft s past known images kept notes (nI nd) at_ alone parts held) 29 [.ref 0, .int p, .int what, .int u0, .int u1, .int (nI i)] []
  | 0, i, u0, u1, hi, k => by
    have hN : i = 100 := by omega
    rw [hN]
    rw [hN] at k
    refine g_iload dX10_age_29 31 rfl rfl ?_
    refine g_bipush 100 dX10_age_31 33 rfl (by decide) ?_
    refine g_icmp_ge dX10_age_33 69 rfl 36 rfl (fun _ => ?_) (fun c => absurd (nI_le (a := 100) (b := 100) (by omega) (by omega)) c)
    exact k
  | d + 1, i, u0, u1, hi, k => by
    refine g_iload dX10_age_29 31 rfl rfl ?_
    refine g_bipush 100 dX10_age_31 33 rfl (by decide) ?_
    refine g_icmp_ge dX10_age_33 69 rfl 36 rfl (fun c => absurd c (nI_ge (a := i) (b := 100) (by omega) (by omega))) (fun _ => ?_)
    refine g_aload_n dX10_age_36 rfl 37 rfl rfl ?_
    refine g_iload_n dX10_age_37 rfl 38 rfl rfl ?_
    refine g_iload dX10_age_38 40 rfl rfl ?_
    refine g_cVv (as := [.int p, .int (nI i)]) (st := []) dX10_age_40 43 rfl kX10_134 ⟨Nat.le_of_ble_eq_true rfl, Nat.le_of_ble_eq_true rfl⟩ (MX10_isSo (nd := nd) p (nI i) hsz hs (by omega)) rfl rfl rfl rfl (Nat.le_of_ble_eq_true rfl) (Nat.le_refl _) (Nat.le_refl _) ?_
    refine g_if_eq dX10_age_43 63 rfl 46 rfl (fun c1 => ?_) (fun c1 => ?_)
    · replace c1 := gB_f c1
      refine g_iinc5 dX10_age_63 66 rfl 1 (by decide) (nI (i + 1)) (nI_add _ 1) (by decide) rfl ?_
      refine g_goto dX10_age_66 29 rfl ?_
      have e : (fX10_age_29 told notes p sz nd) i (u0, u1) = (u0, u1) := by rw [fX10_age_29, if_neg c1]
      refine LX10_age_29 hsz hs hnd d (i + 1) u0 u1 (by omega) ?_
      rw [← e]
      exact k
    · replace c1 := gB_t c1
      refine g_iload_n dX10_age_46 rfl 47 rfl rfl ?_
      refine g_bipush (-4) dX10_age_47 49 rfl (by decide) ?_
      refine g_icmp_ne dX10_age_49 57 rfl 52 rfl (fun c2 => ?_) (fun c2 => ?_)
      · refine g_iload_n dX10_age_57 rfl 58 rfl rfl ?_
        refine g_istore3 dX10_age_58 59 rfl (by decide) rfl ?_
        refine g_iload dX10_age_59 61 rfl rfl ?_
        refine g_istore4 dX10_age_61 63 rfl (by decide) rfl ?_
        refine g_iinc5 dX10_age_63 66 rfl 1 (by decide) (nI (i + 1)) (nI_add _ 1) (by decide) rfl ?_
        refine g_goto dX10_age_66 29 rfl ?_
        have e : (fX10_age_29 told notes p sz nd) i (u0, u1) = (u0, (nI i)) := by rw [fX10_age_29, if_pos c1, if_neg c2]
        refine LX10_age_29 hsz hs hnd d (i + 1) u0 (nI i) (by omega) ?_
        rw [← e]
        exact k
      · refine g_iload dX10_age_52 54 rfl rfl ?_
        refine g_goto dX10_age_54 58 rfl ?_
        refine g_istore3 dX10_age_58 59 rfl (by decide) rfl ?_
        refine g_iload dX10_age_59 61 rfl rfl ?_
        refine g_istore4 dX10_age_61 63 rfl (by decide) rfl ?_
        refine g_iinc5 dX10_age_63 66 rfl 1 (by decide) (nI (i + 1)) (nI_add _ 1) (by decide) rfl ?_
        refine g_goto dX10_age_66 29 rfl ?_
        have e : (fX10_age_29 told notes p sz nd) i (u0, u1) = ((nI i), (nI i)) := by rw [fX10_age_29, if_pos c1, if_pos c2]
        refine LX10_age_29 hsz hs hnd d (i + 1) (nI i) (nI i) (by omega) ?_
        rw [← e]
        exact k
def rX10_age (told : Int32 → Int32) (notes : Int32 → Int32) (p : Int32) (what : Int32) (sz : Nat) (nd : Nat) : Int32 := (if (rX10_isPerson told p) = true then (if (rX10_in what 0 1) = true then (if what = 0 then ((gLp (fX10_age_29 told notes p sz nd) 100 0 ((-4), (-4))).1) else ((gLp (fX10_age_29 told notes p sz nd) 100 0 ((-4), (-4))).2)) else (-1)) else (-1))
set_option maxRecDepth 100000 in
set_option maxHeartbeats 4000000 in
theorem MX10_age {w : gW} {al : Bool} {typed known kept at_ : Int32} {text told draft s past images notes alone parts held : Int32 → Int32} {sz nd : Nat} (p : Int32) (what : Int32) (hsz : told 0 = nI sz) (hs : sz ≤ 9) (hnd : nd ≤ 5)  : M w gT0 al mX10_age 0 0 (hM text typed told draft s past known images kept notes (nI nd) at_ alone parts held) [.ref 0, .int p, .int what] (gEq (hM text typed told draft s past known images kept notes (nI nd) at_ alone parts held) (some (.int (rX10_age told notes p what sz nd)))) := by
  refine M.of (L0 := [.ref 0, .int p, .int what, gF, gF, gF]) (by decide +kernel) (Nat.le_of_ble_eq_true rfl) rfl ?_
  refine g_aload_n dX10_age_0 rfl 1 rfl rfl ?_
  refine g_iload_n dX10_age_1 rfl 2 rfl rfl ?_
  refine g_cVv (as := [.int p]) (st := []) dX10_age_2 5 rfl kX10_95 ⟨Nat.le_of_ble_eq_true rfl, Nat.le_of_ble_eq_true rfl⟩ (MX10_isPerson p) rfl rfl rfl rfl (Nat.le_of_ble_eq_true rfl) (Nat.le_refl _) (Nat.le_refl _) ?_
  refine g_if_eq dX10_age_5 17 rfl 8 rfl (fun c1 => ?_) (fun c1 => ?_)
  · replace c1 := gB_f c1
    refine g_iconst (-1) dX10_age_17 18 rfl (by decide) ?_
    refine g_ireturn dX10_age_18 rfl rfl (Nat.le_refl _) (Nat.le_refl _) ?_
    have e : (rX10_age told notes p what sz nd) = (-1) := by rw [rX10_age, if_neg c1]
    rw [e]
    exact ⟨rfl, rfl⟩
  · replace c1 := gB_t c1
    refine g_iload_n dX10_age_8 rfl 9 rfl rfl ?_
    refine g_iconst 0 dX10_age_9 10 rfl (by decide) ?_
    refine g_iconst 1 dX10_age_10 11 rfl (by decide) ?_
    refine g_cSv (as := [.int what, .int 0, .int 1]) (st := []) dX10_age_11 14 rfl kX10_50 ⟨Nat.le_of_ble_eq_true rfl, Nat.le_of_ble_eq_true rfl⟩ (MX10_in what 0 1) rfl (Nat.le_of_ble_eq_true rfl) (Nat.le_refl _) (Nat.le_refl _) ?_
    refine g_if_ne dX10_age_14 19 rfl 17 rfl (fun c2 => ?_) (fun c2 => ?_)
    · replace c2 := gB_t c2
      refine g_bipush (-4) dX10_age_19 21 rfl (by decide) ?_
      refine g_istore3 dX10_age_21 22 rfl (by decide) rfl ?_
      refine g_bipush (-4) dX10_age_22 24 rfl (by decide) ?_
      refine g_istore4 dX10_age_24 26 rfl (by decide) rfl ?_
      refine g_iconst 0 dX10_age_26 27 rfl (by decide) ?_
      refine g_istore5 dX10_age_27 29 rfl (by decide) rfl ?_
      refine LX10_age_29 hsz hs (by omega) 100 0 (-4) (-4) (by omega) ?_
      refine g_iload_n dX10_age_69 rfl 70 rfl rfl ?_
      refine g_if_ne dX10_age_70 77 rfl 73 rfl (fun c3 => ?_) (fun c3 => ?_)
      · refine g_iload dX10_age_77 79 rfl rfl ?_
        refine g_ireturn dX10_age_79 rfl rfl (Nat.le_refl _) (Nat.le_refl _) ?_
        have e : (rX10_age told notes p what sz nd) = ((gLp (fX10_age_29 told notes p sz nd) 100 0 ((-4), (-4))).2) := by rw [rX10_age, if_pos c1, if_pos c2, if_neg c3]
        rw [e]
        exact ⟨rfl, rfl⟩
      · refine g_iload_n dX10_age_73 rfl 74 rfl rfl ?_
        refine g_goto dX10_age_74 79 rfl ?_
        refine g_ireturn dX10_age_79 rfl rfl (Nat.le_refl _) (Nat.le_refl _) ?_
        have e : (rX10_age told notes p what sz nd) = ((gLp (fX10_age_29 told notes p sz nd) 100 0 ((-4), (-4))).1) := by rw [rX10_age, if_pos c1, if_pos c2, if_pos c3]
        rw [e]
        exact ⟨rfl, rfl⟩
    · replace c2 := gB_f c2
      refine g_iconst (-1) dX10_age_17 18 rfl (by decide) ?_
      refine g_ireturn dX10_age_18 rfl rfl (Nat.le_refl _) (Nat.le_refl _) ?_
      have e : (rX10_age told notes p what sz nd) = (-1) := by rw [rX10_age, if_pos c1, if_neg c2]
      rw [e]
      exact ⟨rfl, rfl⟩
