/-! the reference: the text -/
def rX10_number (text : Int32 → Int32) (low : Int32) (high : Int32) (en : Int32) (ty : Nat) (ax : Nat) : Int32 × Nat := (if (rX10_isFigure (rX10_letterAt text ax ty)) = true then (if (rX10_isFigure (rX10_letterAt text (ax + 1) ty)) = true then (if (rX10_letterAt text ((ax + 1) + 1) ty) = en then (if (rX10_in (((10 * ((rX10_letterAt text ax ty) - 48)) + (rX10_letterAt text (ax + 1) ty)) - 48) low high) = true then ((((10 * ((rX10_letterAt text ax ty) - 48)) + (rX10_letterAt text (ax + 1) ty)) - 48), ((ax + 1) + 1) + 1) else ((-1), ((ax + 1) + 1) + 1)) else ((-1), ((ax + 1) + 1) + 1)) else (if (rX10_letterAt text (ax + 1) ty) = en then (if (rX10_in ((rX10_letterAt text ax ty) - 48) low high) = true then (((rX10_letterAt text ax ty) - 48), (ax + 1) + 1) else ((-1), (ax + 1) + 1)) else ((-1), (ax + 1) + 1))) else ((-1), ax))
set_option maxRecDepth 100000 in
set_option maxHeartbeats 4000000 in
theorem MX10_number {w : gW} {al : Bool} {known kept noted : Int32} {text told draft s past images notes alone parts held : Int32 → Int32} {ty ax : Nat} (low : Int32) (high : Int32) (en : Int32) (hty : ty ≤ 200) (hax : ax < 900)  : M w gT0 al mX10_number 0 0 (hM text (nI ty) told draft s past known images kept notes noted (nI ax) alone parts held) [.ref 0, .int low, .int high, .int en] (gEq (hM text (nI ty) told draft s past known images kept notes noted (nI ((rX10_number text low high en ty ax).2)) alone parts held) (some (.int ((rX10_number text low high en ty ax).1)))) := by
  refine M.of (L0 := [.ref 0, .int low, .int high, .int en, gF, gF]) (by decide +kernel) (Nat.le_of_ble_eq_true rfl) rfl ?_
  refine g_aload_n dX10_number_0 rfl 1 rfl rfl ?_
  refine g_aload_n dX10_number_1 rfl 2 rfl rfl ?_
  refine g_get (v := .int (nI ax)) dX10_number_2 5 rfl lX10_58 rfl rfl ?_
  refine g_cVv (as := [.int (nI ax)]) (st := []) dX10_number_5 8 rfl kX10_61 ⟨Nat.le_of_ble_eq_true rfl, Nat.le_of_ble_eq_true rfl⟩ (MX10_letterAt (ty := ty) ax (by omega) (by omega)) rfl rfl rfl rfl (Nat.le_of_ble_eq_true rfl) (Nat.le_refl _) (Nat.le_refl _) ?_
  refine g_cSv (as := [.int (rX10_letterAt text ax ty)]) (st := []) dX10_number_8 11 rfl kX10_65 ⟨Nat.le_of_ble_eq_true rfl, Nat.le_of_ble_eq_true rfl⟩ (MX10_isFigure (rX10_letterAt text ax ty)) rfl (Nat.le_of_ble_eq_true rfl) (Nat.le_refl _) (Nat.le_refl _) ?_
  refine g_if_ne dX10_number_11 16 rfl 14 rfl (fun c1 => ?_) (fun c1 => ?_)
  · replace c1 := gB_t c1
    refine g_aload_n dX10_number_16 rfl 17 rfl rfl ?_
    refine g_aload_n dX10_number_17 rfl 18 rfl rfl ?_
    refine g_get (v := .int (nI ax)) dX10_number_18 21 rfl lX10_58 rfl rfl ?_
    refine g_cVv (as := [.int (nI ax)]) (st := []) dX10_number_21 24 rfl kX10_61 ⟨Nat.le_of_ble_eq_true rfl, Nat.le_of_ble_eq_true rfl⟩ (MX10_letterAt (ty := ty) ax (by omega) (by omega)) rfl rfl rfl rfl (Nat.le_of_ble_eq_true rfl) (Nat.le_refl _) (Nat.le_refl _) ?_
    refine g_bipush 48 dX10_number_24 26 rfl (by decide) ?_
    refine g_isub dX10_number_26 27 rfl ?_
    refine g_istore4 dX10_number_27 29 rfl (by decide) rfl ?_
    refine g_aload_n dX10_number_29 rfl 30 rfl rfl ?_
    refine g_dup dX10_number_30 31 rfl rfl ?_
    refine g_get (v := .int (nI ax)) dX10_number_31 34 rfl lX10_58 rfl rfl ?_
    refine g_iconst 1 dX10_number_34 35 rfl (by decide) ?_
    refine g_iadd' dX10_number_35 36 rfl (nI (ax + 1)) (nI_add _ 1) ?_
    refine g_put dX10_number_36 39 rfl lX10_58 wrX10 rfl rfl rfl rfl rfl (Nat.le_of_ble_eq_true rfl) (h' := (hM text (nI ty) told draft s past known images kept notes noted (nI (ax + 1)) alone parts held)) rfl ?_
    refine g_aload_n dX10_number_39 rfl 40 rfl rfl ?_
    refine g_aload_n dX10_number_40 rfl 41 rfl rfl ?_
    refine g_get (v := .int (nI (ax + 1))) dX10_number_41 44 rfl lX10_58 rfl rfl ?_
    refine g_cVv (as := [.int (nI (ax + 1))]) (st := []) dX10_number_44 47 rfl kX10_61 ⟨Nat.le_of_ble_eq_true rfl, Nat.le_of_ble_eq_true rfl⟩ (MX10_letterAt (ty := ty) (ax + 1) (by omega) (by omega)) rfl rfl rfl rfl (Nat.le_of_ble_eq_true rfl) (Nat.le_refl _) (Nat.le_refl _) ?_
    refine g_cSv (as := [.int (rX10_letterAt text (ax + 1) ty)]) (st := []) dX10_number_47 50 rfl kX10_65 ⟨Nat.le_of_ble_eq_true rfl, Nat.le_of_ble_eq_true rfl⟩ (MX10_isFigure (rX10_letterAt text (ax + 1) ty)) rfl (Nat.le_of_ble_eq_true rfl) (Nat.le_refl _) (Nat.le_refl _) ?_
    refine g_if_eq dX10_number_50 82 rfl 53 rfl (fun c2 => ?_) (fun c2 => ?_)
    · replace c2 := gB_f c2
      refine g_aload_n dX10_number_82 rfl 83 rfl rfl ?_
      refine g_aload_n dX10_number_83 rfl 84 rfl rfl ?_
      refine g_get (v := .int (nI (ax + 1))) dX10_number_84 87 rfl lX10_58 rfl rfl ?_
      refine g_cVv (as := [.int (nI (ax + 1))]) (st := []) dX10_number_87 90 rfl kX10_61 ⟨Nat.le_of_ble_eq_true rfl, Nat.le_of_ble_eq_true rfl⟩ (MX10_letterAt (ty := ty) (ax + 1) (by omega) (by omega)) rfl rfl rfl rfl (Nat.le_of_ble_eq_true rfl) (Nat.le_refl _) (Nat.le_refl _) ?_
      refine g_iload_n dX10_number_90 rfl 91 rfl rfl ?_
      refine g_icmp_ne dX10_number_91 108 rfl 94 rfl (fun c3 => ?_) (fun c3 => ?_)
      · refine g_iconst 0 dX10_number_108 109 rfl (by decide) ?_
        refine g_istore5 dX10_number_109 111 rfl (by decide) rfl ?_
        refine g_aload_n dX10_number_111 rfl 112 rfl rfl ?_
        refine g_dup dX10_number_112 113 rfl rfl ?_
        refine g_get (v := .int (nI (ax + 1))) dX10_number_113 116 rfl lX10_58 rfl rfl ?_
        refine g_iconst 1 dX10_number_116 117 rfl (by decide) ?_
        refine g_iadd' dX10_number_117 118 rfl (nI ((ax + 1) + 1)) (nI_add _ 1) ?_
        refine g_put dX10_number_118 121 rfl lX10_58 wrX10 rfl rfl rfl rfl rfl (Nat.le_of_ble_eq_true rfl) (h' := (hM text (nI ty) told draft s past known images kept notes noted (nI ((ax + 1) + 1)) alone parts held)) rfl ?_
        refine g_iload dX10_number_121 123 rfl rfl ?_
        refine g_if_eq dX10_number_123 131 rfl 126 rfl (fun _ => ?_) (fun c => absurd (by decide) c)
        refine g_iconst (-1) dX10_number_131 132 rfl (by decide) ?_
        refine g_ireturn dX10_number_132 rfl rfl (Nat.le_refl _) (Nat.le_refl _) ?_
        have e : (rX10_number text low high en ty ax) = ((-1), (ax + 1) + 1) := by rw [rX10_number, if_pos c1, if_neg c2, if_neg c3]
        rw [e]
        exact ⟨rfl, rfl⟩
      · refine g_iload dX10_number_94 96 rfl rfl ?_
        refine g_iload_n dX10_number_96 rfl 97 rfl rfl ?_
        refine g_iload_n dX10_number_97 rfl 98 rfl rfl ?_
        refine g_cSv (as := [.int ((rX10_letterAt text ax ty) - 48), .int low, .int high]) (st := []) dX10_number_98 101 rfl kX10_50 ⟨Nat.le_of_ble_eq_true rfl, Nat.le_of_ble_eq_true rfl⟩ (MX10_in ((rX10_letterAt text ax ty) - 48) low high) rfl (Nat.le_of_ble_eq_true rfl) (Nat.le_refl _) (Nat.le_refl _) ?_
        refine g_if_eq dX10_number_101 108 rfl 104 rfl (fun c4 => ?_) (fun c4 => ?_)
        · replace c4 := gB_f c4
          refine g_iconst 0 dX10_number_108 109 rfl (by decide) ?_
          refine g_istore5 dX10_number_109 111 rfl (by decide) rfl ?_
          refine g_aload_n dX10_number_111 rfl 112 rfl rfl ?_
          refine g_dup dX10_number_112 113 rfl rfl ?_
          refine g_get (v := .int (nI (ax + 1))) dX10_number_113 116 rfl lX10_58 rfl rfl ?_
          refine g_iconst 1 dX10_number_116 117 rfl (by decide) ?_
          refine g_iadd' dX10_number_117 118 rfl (nI ((ax + 1) + 1)) (nI_add _ 1) ?_
          refine g_put dX10_number_118 121 rfl lX10_58 wrX10 rfl rfl rfl rfl rfl (Nat.le_of_ble_eq_true rfl) (h' := (hM text (nI ty) told draft s past known images kept notes noted (nI ((ax + 1) + 1)) alone parts held)) rfl ?_
          refine g_iload dX10_number_121 123 rfl rfl ?_
          refine g_if_eq dX10_number_123 131 rfl 126 rfl (fun _ => ?_) (fun c => absurd (by decide) c)
          refine g_iconst (-1) dX10_number_131 132 rfl (by decide) ?_
          refine g_ireturn dX10_number_132 rfl rfl (Nat.le_refl _) (Nat.le_refl _) ?_
          have e : (rX10_number text low high en ty ax) = ((-1), (ax + 1) + 1) := by rw [rX10_number, if_pos c1, if_neg c2, if_pos c3, if_neg c4]
          rw [e]
          exact ⟨rfl, rfl⟩
        · replace c4 := gB_t c4
          refine g_iconst 1 dX10_number_104 105 rfl (by decide) ?_
          refine g_goto dX10_number_105 109 rfl ?_
          refine g_istore5 dX10_number_109 111 rfl (by decide) rfl ?_
          refine g_aload_n dX10_number_111 rfl 112 rfl rfl ?_
          refine g_dup dX10_number_112 113 rfl rfl ?_
          refine g_get (v := .int (nI (ax + 1))) dX10_number_113 116 rfl lX10_58 rfl rfl ?_
          refine g_iconst 1 dX10_number_116 117 rfl (by decide) ?_
          refine g_iadd' dX10_number_117 118 rfl (nI ((ax + 1) + 1)) (nI_add _ 1) ?_
          refine g_put dX10_number_118 121 rfl lX10_58 wrX10 rfl rfl rfl rfl rfl (Nat.le_of_ble_eq_true rfl) (h' := (hM text (nI ty) told draft s past known images kept notes noted (nI ((ax + 1) + 1)) alone parts held)) rfl ?_
          refine g_iload dX10_number_121 123 rfl rfl ?_
          refine g_if_eq dX10_number_123 131 rfl 126 rfl (fun c => absurd c (by decide)) (fun _ => ?_)
          refine g_iload dX10_number_126 128 rfl rfl ?_
          refine g_goto dX10_number_128 132 rfl ?_
          refine g_ireturn dX10_number_132 rfl rfl (Nat.le_refl _) (Nat.le_refl _) ?_
          have e : (rX10_number text low high en ty ax) = (((rX10_letterAt text ax ty) - 48), (ax + 1) + 1) := by rw [rX10_number, if_pos c1, if_neg c2, if_pos c3, if_pos c4]
          rw [e]
          exact ⟨rfl, rfl⟩
    · replace c2 := gB_t c2
      refine g_bipush 10 dX10_number_53 55 rfl (by decide) ?_
      refine g_iload dX10_number_55 57 rfl rfl ?_
      refine g_imul dX10_number_57 58 rfl ?_
      refine g_aload_n dX10_number_58 rfl 59 rfl rfl ?_
      refine g_aload_n dX10_number_59 rfl 60 rfl rfl ?_
      refine g_get (v := .int (nI (ax + 1))) dX10_number_60 63 rfl lX10_58 rfl rfl ?_
      refine g_cVv (as := [.int (nI (ax + 1))]) (st := [.int (10 * ((rX10_letterAt text ax ty) - 48))]) dX10_number_63 66 rfl kX10_61 ⟨Nat.le_of_ble_eq_true rfl, Nat.le_of_ble_eq_true rfl⟩ (MX10_letterAt (ty := ty) (ax + 1) (by omega) (by omega)) rfl rfl rfl rfl (Nat.le_of_ble_eq_true rfl) (Nat.le_refl _) (Nat.le_refl _) ?_
      refine g_iadd dX10_number_66 67 rfl ?_
      refine g_bipush 48 dX10_number_67 69 rfl (by decide) ?_
      refine g_isub dX10_number_69 70 rfl ?_
      refine g_istore4 dX10_number_70 72 rfl (by decide) rfl ?_
      refine g_aload_n dX10_number_72 rfl 73 rfl rfl ?_
      refine g_dup dX10_number_73 74 rfl rfl ?_
      refine g_get (v := .int (nI (ax + 1))) dX10_number_74 77 rfl lX10_58 rfl rfl ?_
      refine g_iconst 1 dX10_number_77 78 rfl (by decide) ?_
      refine g_iadd' dX10_number_78 79 rfl (nI ((ax + 1) + 1)) (nI_add _ 1) ?_
      refine g_put dX10_number_79 82 rfl lX10_58 wrX10 rfl rfl rfl rfl rfl (Nat.le_of_ble_eq_true rfl) (h' := (hM text (nI ty) told draft s past known images kept notes noted (nI ((ax + 1) + 1)) alone parts held)) rfl ?_
      refine g_aload_n dX10_number_82 rfl 83 rfl rfl ?_
      refine g_aload_n dX10_number_83 rfl 84 rfl rfl ?_
      refine g_get (v := .int (nI ((ax + 1) + 1))) dX10_number_84 87 rfl lX10_58 rfl rfl ?_
      refine g_cVv (as := [.int (nI ((ax + 1) + 1))]) (st := []) dX10_number_87 90 rfl kX10_61 ⟨Nat.le_of_ble_eq_true rfl, Nat.le_of_ble_eq_true rfl⟩ (MX10_letterAt (ty := ty) ((ax + 1) + 1) (by omega) (by omega)) rfl rfl rfl rfl (Nat.le_of_ble_eq_true rfl) (Nat.le_refl _) (Nat.le_refl _) ?_
      refine g_iload_n dX10_number_90 rfl 91 rfl rfl ?_
      refine g_icmp_ne dX10_number_91 108 rfl 94 rfl (fun c5 => ?_) (fun c5 => ?_)
      · refine g_iconst 0 dX10_number_108 109 rfl (by decide) ?_
        refine g_istore5 dX10_number_109 111 rfl (by decide) rfl ?_
        refine g_aload_n dX10_number_111 rfl 112 rfl rfl ?_
        refine g_dup dX10_number_112 113 rfl rfl ?_
        refine g_get (v := .int (nI ((ax + 1) + 1))) dX10_number_113 116 rfl lX10_58 rfl rfl ?_
        refine g_iconst 1 dX10_number_116 117 rfl (by decide) ?_
        refine g_iadd' dX10_number_117 118 rfl (nI (((ax + 1) + 1) + 1)) (nI_add _ 1) ?_
        refine g_put dX10_number_118 121 rfl lX10_58 wrX10 rfl rfl rfl rfl rfl (Nat.le_of_ble_eq_true rfl) (h' := (hM text (nI ty) told draft s past known images kept notes noted (nI (((ax + 1) + 1) + 1)) alone parts held)) rfl ?_
        refine g_iload dX10_number_121 123 rfl rfl ?_
        refine g_if_eq dX10_number_123 131 rfl 126 rfl (fun _ => ?_) (fun c => absurd (by decide) c)
        refine g_iconst (-1) dX10_number_131 132 rfl (by decide) ?_
        refine g_ireturn dX10_number_132 rfl rfl (Nat.le_refl _) (Nat.le_refl _) ?_
        have e : (rX10_number text low high en ty ax) = ((-1), ((ax + 1) + 1) + 1) := by rw [rX10_number, if_pos c1, if_pos c2, if_neg c5]
        rw [e]
        exact ⟨rfl, rfl⟩
      · refine g_iload dX10_number_94 96 rfl rfl ?_
        refine g_iload_n dX10_number_96 rfl 97 rfl rfl ?_
        refine g_iload_n dX10_number_97 rfl 98 rfl rfl ?_
        refine g_cSv (as := [.int (((10 * ((rX10_letterAt text ax ty) - 48)) + (rX10_letterAt text (ax + 1) ty)) - 48), .int low, .int high]) (st := []) dX10_number_98 101 rfl kX10_50 ⟨Nat.le_of_ble_eq_true rfl, Nat.le_of_ble_eq_true rfl⟩ (MX10_in (((10 * ((rX10_letterAt text ax ty) - 48)) + (rX10_letterAt text (ax + 1) ty)) - 48) low high) rfl (Nat.le_of_ble_eq_true rfl) (Nat.le_refl _) (Nat.le_refl _) ?_
        refine g_if_eq dX10_number_101 108 rfl 104 rfl (fun c6 => ?_) (fun c6 => ?_)
        · replace c6 := gB_f c6
          refine g_iconst 0 dX10_number_108 109 rfl (by decide) ?_
          refine g_istore5 dX10_number_109 111 rfl (by decide) rfl ?_
          refine g_aload_n dX10_number_111 rfl 112 rfl rfl ?_
          refine g_dup dX10_number_112 113 rfl rfl ?_
          refine g_get (v := .int (nI ((ax + 1) + 1))) dX10_number_113 116 rfl lX10_58 rfl rfl ?_
          refine g_iconst 1 dX10_number_116 117 rfl (by decide) ?_
          refine g_iadd' dX10_number_117 118 rfl (nI (((ax + 1) + 1) + 1)) (nI_add _ 1) ?_
          refine g_put dX10_number_118 121 rfl lX10_58 wrX10 rfl rfl rfl rfl rfl (Nat.le_of_ble_eq_true rfl) (h' := (hM text (nI ty) told draft s past known images kept notes noted (nI (((ax + 1) + 1) + 1)) alone parts held)) rfl ?_
          refine g_iload dX10_number_121 123 rfl rfl ?_
          refine g_if_eq dX10_number_123 131 rfl 126 rfl (fun _ => ?_) (fun c => absurd (by decide) c)
          refine g_iconst (-1) dX10_number_131 132 rfl (by decide) ?_
          refine g_ireturn dX10_number_132 rfl rfl (Nat.le_refl _) (Nat.le_refl _) ?_
          have e : (rX10_number text low high en ty ax) = ((-1), ((ax + 1) + 1) + 1) := by rw [rX10_number, if_pos c1, if_pos c2, if_pos c5, if_neg c6]
          rw [e]
          exact ⟨rfl, rfl⟩
        · replace c6 := gB_t c6
          refine g_iconst 1 dX10_number_104 105 rfl (by decide) ?_
          refine g_goto dX10_number_105 109 rfl ?_
          refine g_istore5 dX10_number_109 111 rfl (by decide) rfl ?_
          refine g_aload_n dX10_number_111 rfl 112 rfl rfl ?_
          refine g_dup dX10_number_112 113 rfl rfl ?_
          refine g_get (v := .int (nI ((ax + 1) + 1))) dX10_number_113 116 rfl lX10_58 rfl rfl ?_
          refine g_iconst 1 dX10_number_116 117 rfl (by decide) ?_
          refine g_iadd' dX10_number_117 118 rfl (nI (((ax + 1) + 1) + 1)) (nI_add _ 1) ?_
          refine g_put dX10_number_118 121 rfl lX10_58 wrX10 rfl rfl rfl rfl rfl (Nat.le_of_ble_eq_true rfl) (h' := (hM text (nI ty) told draft s past known images kept notes noted (nI (((ax + 1) + 1) + 1)) alone parts held)) rfl ?_
          refine g_iload dX10_number_121 123 rfl rfl ?_
          refine g_if_eq dX10_number_123 131 rfl 126 rfl (fun c => absurd c (by decide)) (fun _ => ?_)
          refine g_iload dX10_number_126 128 rfl rfl ?_
          refine g_goto dX10_number_128 132 rfl ?_
          refine g_ireturn dX10_number_132 rfl rfl (Nat.le_refl _) (Nat.le_refl _) ?_
          have e : (rX10_number text low high en ty ax) = ((((10 * ((rX10_letterAt text ax ty) - 48)) + (rX10_letterAt text (ax + 1) ty)) - 48), ((ax + 1) + 1) + 1) := by rw [rX10_number, if_pos c1, if_pos c2, if_pos c5, if_pos c6]
          rw [e]
          exact ⟨rfl, rfl⟩
  · replace c1 := gB_f c1
    refine g_iconst (-1) dX10_number_14 15 rfl (by decide) ?_
    refine g_ireturn dX10_number_15 rfl rfl (Nat.le_refl _) (Nat.le_refl _) ?_
    have e : (rX10_number text low high en ty ax) = ((-1), ax) := by rw [rX10_number, if_neg c1]
    rw [e]
    exact ⟨rfl, rfl⟩
theorem number_le {text : Int32 → Int32} {low high en : Int32} {ty ax : Nat} : (rX10_number text low high en ty ax).2 ≤ ax + 3 := by
  unfold rX10_number
  repeat (split <;> try (simp only []; omega))
theorem number_lt {text : Int32 → Int32} {low high en : Int32} {ty ax B : Nat} (h : ax + 3 < B) : (rX10_number text low high en ty ax).2 < B := Nat.lt_of_le_of_lt number_le h
theorem number_ltk {text : Int32 → Int32} {low high en : Int32} {ty ax B : Nat} (k j : Nat) (hk : 3 + k = j) (h : ax + j < B) : (rX10_number text low high en ty ax).2 + k < B := by
  have := number_le (text := text) (low := low) (high := high) (en := en) (ty := ty) (ax := ax)
  omega
theorem number_ge {text : Int32 → Int32} {low high en : Int32} {ty ax : Nat} : ax ≤ (rX10_number text low high en ty ax).2 := by
  unfold rX10_number
  repeat (split <;> try (simp only []; omega))
def rX10_personOf (draft : Int32 → Int32) (kd : Int32) (ag : Int32) (cm : Int32) (pa : Int32) (dz : Nat) : (Int32 → Int32) := (gup (gup (gup (gup (gup draft (nI (4 + dz)) kd) (nI (13 + dz)) ag) (nI (22 + dz)) cm) (nI (31 + dz)) pa) 0 (((gup (gup (gup (gup draft (nI (4 + dz)) kd) (nI (13 + dz)) ag) (nI (22 + dz)) cm) (nI (31 + dz)) pa) 0) + 1))
set_option maxRecDepth 100000 in
set_option maxHeartbeats 4000000 in
theorem MX10_personOf {w : gW} {al : Bool} {typed known kept noted at_ : Int32} {text told draft s past images notes alone parts held : Int32 → Int32} {dz : Nat} (kd : Int32) (ag : Int32) (cm : Int32) (pa : Int32) (hdz : draft 0 = nI dz) (hd9 : dz < 9)  : M w gT0 al mX10_personOf 0 0 (hM text typed told draft s past known images kept notes noted at_ alone parts held) [.ref 0, .int kd, .int ag, .int cm, .int pa] (gEq (hM text typed told (rX10_personOf draft kd ag cm pa dz) s past known images kept notes noted at_ alone parts held) none) := by
  refine M.of (L0 := [.ref 0, .int kd, .int ag, .int cm, .int pa, gF]) (by decide +kernel) (Nat.le_of_ble_eq_true rfl) rfl ?_
  refine g_aload_n dX10_personOf_0 rfl 1 rfl rfl ?_
  refine g_get (v := .ref 3) dX10_personOf_1 4 rfl lX10_16 rfl rfl ?_
  refine g_iconst 0 dX10_personOf_4 5 rfl (by decide) ?_
  refine g_iaload' (N := 40) dX10_personOf_5 6 rfl rfl (vp_in_iff.mpr (by decide)) (nI dz) hdz ?_
  refine g_istore5 dX10_personOf_6 8 rfl (by decide) rfl ?_
  refine g_aload_n dX10_personOf_8 rfl 9 rfl rfl ?_
  refine g_get (v := .ref 3) dX10_personOf_9 12 rfl lX10_16 rfl rfl ?_
  refine g_iconst 4 dX10_personOf_12 13 rfl (by decide) ?_
  refine g_iload dX10_personOf_13 15 rfl rfl ?_
  refine g_iadd' dX10_personOf_15 16 rfl (nI (4 + dz)) (nI_add 4 _) ?_
  refine g_iload_n dX10_personOf_16 rfl 17 rfl rfl ?_
  refine g_iastore (N := 40) dX10_personOf_17 18 rfl rfl (by decide) (vp_in_nI (by omega) (by decide)) (h' := (hM text typed told (gup draft (nI (4 + dz)) kd) s past known images kept notes noted at_ alone parts held)) rfl ?_
  refine g_aload_n dX10_personOf_18 rfl 19 rfl rfl ?_
  refine g_get (v := .ref 3) dX10_personOf_19 22 rfl lX10_16 rfl rfl ?_
  refine g_bipush 13 dX10_personOf_22 24 rfl (by decide) ?_
  refine g_iload dX10_personOf_24 26 rfl rfl ?_
  refine g_iadd' dX10_personOf_26 27 rfl (nI (13 + dz)) (nI_add 13 _) ?_
  refine g_iload_n dX10_personOf_27 rfl 28 rfl rfl ?_
  refine g_iastore (N := 40) dX10_personOf_28 29 rfl rfl (by decide) (vp_in_nI (by omega) (by decide)) (h' := (hM text typed told (gup (gup draft (nI (4 + dz)) kd) (nI (13 + dz)) ag) s past known images kept notes noted at_ alone parts held)) rfl ?_
  refine g_aload_n dX10_personOf_29 rfl 30 rfl rfl ?_
  refine g_get (v := .ref 3) dX10_personOf_30 33 rfl lX10_16 rfl rfl ?_
  refine g_bipush 22 dX10_personOf_33 35 rfl (by decide) ?_
  refine g_iload dX10_personOf_35 37 rfl rfl ?_
  refine g_iadd' dX10_personOf_37 38 rfl (nI (22 + dz)) (nI_add 22 _) ?_
  refine g_iload_n dX10_personOf_38 rfl 39 rfl rfl ?_
  refine g_iastore (N := 40) dX10_personOf_39 40 rfl rfl (by decide) (vp_in_nI (by omega) (by decide)) (h' := (hM text typed told (gup (gup (gup draft (nI (4 + dz)) kd) (nI (13 + dz)) ag) (nI (22 + dz)) cm) s past known images kept notes noted at_ alone parts held)) rfl ?_
  refine g_aload_n dX10_personOf_40 rfl 41 rfl rfl ?_
  refine g_get (v := .ref 3) dX10_personOf_41 44 rfl lX10_16 rfl rfl ?_
  refine g_bipush 31 dX10_personOf_44 46 rfl (by decide) ?_
  refine g_iload dX10_personOf_46 48 rfl rfl ?_
  refine g_iadd' dX10_personOf_48 49 rfl (nI (31 + dz)) (nI_add 31 _) ?_
  refine g_iload dX10_personOf_49 51 rfl rfl ?_
  refine g_iastore (N := 40) dX10_personOf_51 52 rfl rfl (by decide) (vp_in_nI (by omega) (by decide)) (h' := (hM text typed told (gup (gup (gup (gup draft (nI (4 + dz)) kd) (nI (13 + dz)) ag) (nI (22 + dz)) cm) (nI (31 + dz)) pa) s past known images kept notes noted at_ alone parts held)) rfl ?_
  refine g_aload_n dX10_personOf_52 rfl 53 rfl rfl ?_
  refine g_get (v := .ref 3) dX10_personOf_53 56 rfl lX10_16 rfl rfl ?_
  refine g_iconst 0 dX10_personOf_56 57 rfl (by decide) ?_
  refine g_dup2 dX10_personOf_57 58 rfl rfl rfl ?_
  refine g_iaload (N := 40) dX10_personOf_58 59 rfl rfl (vp_in_iff.mpr (by decide)) ?_
  refine g_iconst 1 dX10_personOf_59 60 rfl (by decide) ?_
  refine g_iadd dX10_personOf_60 61 rfl ?_
  refine g_iastore (N := 40) dX10_personOf_61 62 rfl rfl (by decide) (vp_in_iff.mpr (by decide)) (h' := (hM text typed told (gup (gup (gup (gup (gup draft (nI (4 + dz)) kd) (nI (13 + dz)) ag) (nI (22 + dz)) cm) (nI (31 + dz)) pa) 0 (((gup (gup (gup (gup draft (nI (4 + dz)) kd) (nI (13 + dz)) ag) (nI (22 + dz)) cm) (nI (31 + dz)) pa) 0) + 1)) s past known images kept notes noted at_ alone parts held)) rfl ?_
  refine g_return dX10_personOf_62 rfl (Nat.le_refl _) (Nat.le_refl _) ?_
  have e : (rX10_personOf draft kd ag cm pa dz) = (gup (gup (gup (gup (gup draft (nI (4 + dz)) kd) (nI (13 + dz)) ag) (nI (22 + dz)) cm) (nI (31 + dz)) pa) 0 (((gup (gup (gup (gup draft (nI (4 + dz)) kd) (nI (13 + dz)) ag) (nI (22 + dz)) cm) (nI (31 + dz)) pa) 0) + 1)) := by rw [rX10_personOf]
  rw [e]
  exact ⟨rfl, rfl⟩
theorem dz9 {dz : Nat} (h : dz ≤ 9) (c : ¬ (nI dz) = 9) : dz < 9 := by
  have q : dz ≠ 9 := fun z => c (by rw [z]; rfl)
  omega
def rX10_readsItem (text : Int32 → Int32) (draft : Int32 → Int32) (letter : Int32) (ty : Nat) (ax : Nat) (dz : Nat) : Bool × (Int32 → Int32) × Nat := (if letter = 102 then (if 0 ≤ (rX10_number text 1 99 44 ty ax).1 then (if 0 ≤ (rX10_number text 0 99 44 ty (rX10_number text 1 99 44 ty ax).2).1 then (if (rX10_number text 0 9 59 ty (rX10_number text 0 99 44 ty (rX10_number text 1 99 44 ty ax).2).2).1 < 0 then (false, (gup (gup (gup draft 1 (10 * (rX10_number text 1 99 44 ty ax).1)) 2 (rX10_number text 0 99 44 ty (rX10_number text 1 99 44 ty ax).2).1) 3 (rX10_number text 0 9 59 ty (rX10_number text 0 99 44 ty (rX10_number text 1 99 44 ty ax).2).2).1), (rX10_number text 0 9 59 ty (rX10_number text 0 99 44 ty (rX10_number text 1 99 44 ty ax).2).2).2) else (true, (gup (gup (gup draft 1 (10 * (rX10_number text 1 99 44 ty ax).1)) 2 (rX10_number text 0 99 44 ty (rX10_number text 1 99 44 ty ax).2).1) 3 (rX10_number text 0 9 59 ty (rX10_number text 0 99 44 ty (rX10_number text 1 99 44 ty ax).2).2).1), (rX10_number text 0 9 59 ty (rX10_number text 0 99 44 ty (rX10_number text 1 99 44 ty ax).2).2).2)) else (false, (gup (gup (gup draft 1 (10 * (rX10_number text 1 99 44 ty ax).1)) 2 (rX10_number text 0 99 44 ty (rX10_number text 1 99 44 ty ax).2).1) 3 (-1)), (rX10_number text 0 99 44 ty (rX10_number text 1 99 44 ty ax).2).2)) else (false, (gup (gup (gup draft 1 (10 * (rX10_number text 1 99 44 ty ax).1)) 2 (-1)) 3 (-1)), (rX10_number text 1 99 44 ty ax).2)) else (if letter = 112 then (if 0 ≤ (rX10_number text 0 3 44 ty ax).1 then (if 0 ≤ (rX10_number text 0 99 44 ty (rX10_number text 0 3 44 ty ax).2).1 then (if 0 ≤ (rX10_number text 0 99 44 ty (rX10_number text 0 99 44 ty (rX10_number text 0 3 44 ty ax).2).2).1 then (if (rX10_number text 0 5 59 ty (rX10_number text 0 99 44 ty (rX10_number text 0 99 44 ty (rX10_number text 0 3 44 ty ax).2).2).2).1 < 0 then (false, draft, (rX10_number text 0 5 59 ty (rX10_number text 0 99 44 ty (rX10_number text 0 99 44 ty (rX10_number text 0 3 44 ty ax).2).2).2).2) else (if (nI dz) = 9 then (false, draft, (rX10_number text 0 5 59 ty (rX10_number text 0 99 44 ty (rX10_number text 0 99 44 ty (rX10_number text 0 3 44 ty ax).2).2).2).2) else (true, (rX10_personOf draft (rX10_number text 0 3 44 ty ax).1 (rX10_number text 0 99 44 ty (rX10_number text 0 3 44 ty ax).2).1 (rX10_number text 0 99 44 ty (rX10_number text 0 99 44 ty (rX10_number text 0 3 44 ty ax).2).2).1 (rX10_number text 0 5 59 ty (rX10_number text 0 99 44 ty (rX10_number text 0 99 44 ty (rX10_number text 0 3 44 ty ax).2).2).2).1 dz), (rX10_number text 0 5 59 ty (rX10_number text 0 99 44 ty (rX10_number text 0 99 44 ty (rX10_number text 0 3 44 ty ax).2).2).2).2))) else (false, draft, (rX10_number text 0 99 44 ty (rX10_number text 0 99 44 ty (rX10_number text 0 3 44 ty ax).2).2).2)) else (false, draft, (rX10_number text 0 99 44 ty (rX10_number text 0 3 44 ty ax).2).2)) else (false, draft, (rX10_number text 0 3 44 ty ax).2)) else (false, draft, ax)))
set_option maxRecDepth 100000 in
set_option maxHeartbeats 4000000 in
theorem MX10_readsItem {w : gW} {al : Bool} {known kept noted : Int32} {text told draft s past images notes alone parts held : Int32 → Int32} {ty ax dz : Nat} (letter : Int32) (hty : ty ≤ 200) (hax : ax < 500) (hdz : draft 0 = nI dz) (hdz9 : dz ≤ 9)  : M w gT0 al mX10_readsItem 0 0 (hM text (nI ty) told draft s past known images kept notes noted (nI ax) alone parts held) [.ref 0, .int letter] (gEq (hM text (nI ty) told ((rX10_readsItem text draft letter ty ax dz).2.1) s past known images kept notes noted (nI ((rX10_readsItem text draft letter ty ax dz).2.2)) alone parts held) (some (.int (gB (rX10_readsItem text draft letter ty ax dz).1)))) := by
  refine M.of (L0 := [.ref 0, .int letter, gF, gF, gF, gF]) (by decide +kernel) (Nat.le_of_ble_eq_true rfl) rfl ?_
  refine g_iload_n dX10_readsItem_0 rfl 1 rfl rfl ?_
  refine g_lsw2 dX10_readsItem_1 102 112 28 111 206 (by decide) (by decide) (by decide) rfl rfl rfl (fun c1 => ?_) (fun c1b => ?_) (fun c1 c1b => ?_)
  · refine g_aload_n dX10_readsItem_28 rfl 29 rfl rfl ?_
    refine g_iconst 1 dX10_readsItem_29 30 rfl (by decide) ?_
    refine g_bipush 99 dX10_readsItem_30 32 rfl (by decide) ?_
    refine g_bipush 44 dX10_readsItem_32 34 rfl (by decide) ?_
    refine g_cVv (as := [.int 1, .int 99, .int 44]) (st := []) dX10_readsItem_34 37 rfl kX10_69 ⟨Nat.le_of_ble_eq_true rfl, Nat.le_of_ble_eq_true rfl⟩ (MX10_number (ty := ty) (ax := ax) 1 99 44 (by omega) (by omega)) rfl rfl rfl rfl (Nat.le_of_ble_eq_true rfl) (Nat.le_refl _) (Nat.le_refl _) ?_
    have bN1 := number_le (text := text) (low := 1) (high := 99) (en := 44) (ty := ty) (ax := ax)
    generalize hN1 : (rX10_number text 1 99 44 ty ax) = N1 at bN1 ⊢
    refine g_istore2 dX10_readsItem_37 38 rfl (by decide) rfl ?_
    refine g_iload_n dX10_readsItem_38 rfl 39 rfl rfl ?_
    refine g_if_ge dX10_readsItem_39 46 rfl 42 rfl (fun c2 => ?_) (fun c2 => ?_)
    · refine g_aload_n dX10_readsItem_46 rfl 47 rfl rfl ?_
      refine g_iconst 0 dX10_readsItem_47 48 rfl (by decide) ?_
      refine g_bipush 99 dX10_readsItem_48 50 rfl (by decide) ?_
      refine g_bipush 44 dX10_readsItem_50 52 rfl (by decide) ?_
      refine g_cVv (as := [.int 0, .int 99, .int 44]) (st := []) dX10_readsItem_52 55 rfl kX10_69 ⟨Nat.le_of_ble_eq_true rfl, Nat.le_of_ble_eq_true rfl⟩ (MX10_number (ty := ty) (ax := N1.2) 0 99 44 (by omega) (by omega)) rfl rfl rfl rfl (Nat.le_of_ble_eq_true rfl) (Nat.le_refl _) (Nat.le_refl _) ?_
      have bN2 := number_le (text := text) (low := 0) (high := 99) (en := 44) (ty := ty) (ax := N1.2)
      generalize hN2 : (rX10_number text 0 99 44 ty N1.2) = N2 at bN2 ⊢
      refine g_istore3 dX10_readsItem_55 56 rfl (by decide) rfl ?_
      refine g_iload_n dX10_readsItem_56 rfl 57 rfl rfl ?_
      refine g_if_ge dX10_readsItem_57 64 rfl 60 rfl (fun c3 => ?_) (fun c3 => ?_)
      · refine g_aload_n dX10_readsItem_64 rfl 65 rfl rfl ?_
        refine g_iconst 0 dX10_readsItem_65 66 rfl (by decide) ?_
        refine g_bipush 9 dX10_readsItem_66 68 rfl (by decide) ?_
        refine g_bipush 59 dX10_readsItem_68 70 rfl (by decide) ?_
        refine g_cVv (as := [.int 0, .int 9, .int 59]) (st := []) dX10_readsItem_70 73 rfl kX10_69 ⟨Nat.le_of_ble_eq_true rfl, Nat.le_of_ble_eq_true rfl⟩ (MX10_number (ty := ty) (ax := N2.2) 0 9 59 (by omega) (by omega)) rfl rfl rfl rfl (Nat.le_of_ble_eq_true rfl) (Nat.le_refl _) (Nat.le_refl _) ?_
        have bN3 := number_le (text := text) (low := 0) (high := 9) (en := 59) (ty := ty) (ax := N2.2)
        generalize hN3 : (rX10_number text 0 9 59 ty N2.2) = N3 at bN3 ⊢
        refine g_istore4 dX10_readsItem_73 75 rfl (by decide) rfl ?_
        refine g_aload_n dX10_readsItem_75 rfl 76 rfl rfl ?_
        refine g_get (v := .ref 3) dX10_readsItem_76 79 rfl lX10_16 rfl rfl ?_
        refine g_iconst 1 dX10_readsItem_79 80 rfl (by decide) ?_
        refine g_bipush 10 dX10_readsItem_80 82 rfl (by decide) ?_
        refine g_iload_n dX10_readsItem_82 rfl 83 rfl rfl ?_
        refine g_imul dX10_readsItem_83 84 rfl ?_
        refine g_iastore (N := 40) dX10_readsItem_84 85 rfl rfl (by decide) (vp_in_iff.mpr (by decide)) (h' := (hM text (nI ty) told (gup draft 1 (10 * N1.1)) s past known images kept notes noted (nI N3.2) alone parts held)) rfl ?_
        refine g_aload_n dX10_readsItem_85 rfl 86 rfl rfl ?_
        refine g_get (v := .ref 3) dX10_readsItem_86 89 rfl lX10_16 rfl rfl ?_
        refine g_iconst 2 dX10_readsItem_89 90 rfl (by decide) ?_
        refine g_iload_n dX10_readsItem_90 rfl 91 rfl rfl ?_
        refine g_iastore (N := 40) dX10_readsItem_91 92 rfl rfl (by decide) (vp_in_iff.mpr (by decide)) (h' := (hM text (nI ty) told (gup (gup draft 1 (10 * N1.1)) 2 N2.1) s past known images kept notes noted (nI N3.2) alone parts held)) rfl ?_
        refine g_aload_n dX10_readsItem_92 rfl 93 rfl rfl ?_
        refine g_get (v := .ref 3) dX10_readsItem_93 96 rfl lX10_16 rfl rfl ?_
        refine g_iconst 3 dX10_readsItem_96 97 rfl (by decide) ?_
        refine g_iload dX10_readsItem_97 99 rfl rfl ?_
        refine g_iastore (N := 40) dX10_readsItem_99 100 rfl rfl (by decide) (vp_in_iff.mpr (by decide)) (h' := (hM text (nI ty) told (gup (gup (gup draft 1 (10 * N1.1)) 2 N2.1) 3 N3.1) s past known images kept notes noted (nI N3.2) alone parts held)) rfl ?_
        refine g_iload dX10_readsItem_100 102 rfl rfl ?_
        refine g_if_lt dX10_readsItem_102 109 rfl 105 rfl (fun c4 => ?_) (fun c4 => ?_)
        · refine g_iconst 0 dX10_readsItem_109 110 rfl (by decide) ?_
          refine g_ireturn dX10_readsItem_110 rfl rfl (Nat.le_refl _) (Nat.le_refl _) ?_
          have e : (rX10_readsItem text draft letter ty ax dz) = (false, (gup (gup (gup draft 1 (10 * N1.1)) 2 N2.1) 3 N3.1), N3.2) := by rw [rX10_readsItem, if_pos c1, hN1, if_pos c2, hN2, if_pos c3, hN3, if_pos c4]
          rw [e]
          exact ⟨rfl, rfl⟩
        · refine g_iconst 1 dX10_readsItem_105 106 rfl (by decide) ?_
          refine g_goto dX10_readsItem_106 110 rfl ?_
          refine g_ireturn dX10_readsItem_110 rfl rfl (Nat.le_refl _) (Nat.le_refl _) ?_
          have e : (rX10_readsItem text draft letter ty ax dz) = (true, (gup (gup (gup draft 1 (10 * N1.1)) 2 N2.1) 3 N3.1), N3.2) := by rw [rX10_readsItem, if_pos c1, hN1, if_pos c2, hN2, if_pos c3, hN3, if_neg c4]
          rw [e]
          exact ⟨rfl, rfl⟩
      · refine g_iconst (-1) dX10_readsItem_60 61 rfl (by decide) ?_
        refine g_goto dX10_readsItem_61 73 rfl ?_
        refine g_istore4 dX10_readsItem_73 75 rfl (by decide) rfl ?_
        refine g_aload_n dX10_readsItem_75 rfl 76 rfl rfl ?_
        refine g_get (v := .ref 3) dX10_readsItem_76 79 rfl lX10_16 rfl rfl ?_
        refine g_iconst 1 dX10_readsItem_79 80 rfl (by decide) ?_
        refine g_bipush 10 dX10_readsItem_80 82 rfl (by decide) ?_
        refine g_iload_n dX10_readsItem_82 rfl 83 rfl rfl ?_
        refine g_imul dX10_readsItem_83 84 rfl ?_
        refine g_iastore (N := 40) dX10_readsItem_84 85 rfl rfl (by decide) (vp_in_iff.mpr (by decide)) (h' := (hM text (nI ty) told (gup draft 1 (10 * N1.1)) s past known images kept notes noted (nI N2.2) alone parts held)) rfl ?_
        refine g_aload_n dX10_readsItem_85 rfl 86 rfl rfl ?_
        refine g_get (v := .ref 3) dX10_readsItem_86 89 rfl lX10_16 rfl rfl ?_
        refine g_iconst 2 dX10_readsItem_89 90 rfl (by decide) ?_
        refine g_iload_n dX10_readsItem_90 rfl 91 rfl rfl ?_
        refine g_iastore (N := 40) dX10_readsItem_91 92 rfl rfl (by decide) (vp_in_iff.mpr (by decide)) (h' := (hM text (nI ty) told (gup (gup draft 1 (10 * N1.1)) 2 N2.1) s past known images kept notes noted (nI N2.2) alone parts held)) rfl ?_
        refine g_aload_n dX10_readsItem_92 rfl 93 rfl rfl ?_
        refine g_get (v := .ref 3) dX10_readsItem_93 96 rfl lX10_16 rfl rfl ?_
        refine g_iconst 3 dX10_readsItem_96 97 rfl (by decide) ?_
        refine g_iload dX10_readsItem_97 99 rfl rfl ?_
        refine g_iastore (N := 40) dX10_readsItem_99 100 rfl rfl (by decide) (vp_in_iff.mpr (by decide)) (h' := (hM text (nI ty) told (gup (gup (gup draft 1 (10 * N1.1)) 2 N2.1) 3 (-1)) s past known images kept notes noted (nI N2.2) alone parts held)) rfl ?_
        refine g_iload dX10_readsItem_100 102 rfl rfl ?_
        refine g_if_lt dX10_readsItem_102 109 rfl 105 rfl (fun _ => ?_) (fun c => absurd (by decide) c)
        refine g_iconst 0 dX10_readsItem_109 110 rfl (by decide) ?_
        refine g_ireturn dX10_readsItem_110 rfl rfl (Nat.le_refl _) (Nat.le_refl _) ?_
        have e : (rX10_readsItem text draft letter ty ax dz) = (false, (gup (gup (gup draft 1 (10 * N1.1)) 2 N2.1) 3 (-1)), N2.2) := by rw [rX10_readsItem, if_pos c1, hN1, if_pos c2, hN2, if_neg c3]
        rw [e]
        exact ⟨rfl, rfl⟩
    · refine g_iconst (-1) dX10_readsItem_42 43 rfl (by decide) ?_
      refine g_goto dX10_readsItem_43 55 rfl ?_
      refine g_istore3 dX10_readsItem_55 56 rfl (by decide) rfl ?_
      refine g_iload_n dX10_readsItem_56 rfl 57 rfl rfl ?_
      refine g_if_ge dX10_readsItem_57 64 rfl 60 rfl (fun c => absurd c (by decide)) (fun _ => ?_)
      refine g_iconst (-1) dX10_readsItem_60 61 rfl (by decide) ?_
      refine g_goto dX10_readsItem_61 73 rfl ?_
      refine g_istore4 dX10_readsItem_73 75 rfl (by decide) rfl ?_
      refine g_aload_n dX10_readsItem_75 rfl 76 rfl rfl ?_
      refine g_get (v := .ref 3) dX10_readsItem_76 79 rfl lX10_16 rfl rfl ?_
      refine g_iconst 1 dX10_readsItem_79 80 rfl (by decide) ?_
      refine g_bipush 10 dX10_readsItem_80 82 rfl (by decide) ?_
      refine g_iload_n dX10_readsItem_82 rfl 83 rfl rfl ?_
      refine g_imul dX10_readsItem_83 84 rfl ?_
      refine g_iastore (N := 40) dX10_readsItem_84 85 rfl rfl (by decide) (vp_in_iff.mpr (by decide)) (h' := (hM text (nI ty) told (gup draft 1 (10 * N1.1)) s past known images kept notes noted (nI N1.2) alone parts held)) rfl ?_
      refine g_aload_n dX10_readsItem_85 rfl 86 rfl rfl ?_
      refine g_get (v := .ref 3) dX10_readsItem_86 89 rfl lX10_16 rfl rfl ?_
      refine g_iconst 2 dX10_readsItem_89 90 rfl (by decide) ?_
      refine g_iload_n dX10_readsItem_90 rfl 91 rfl rfl ?_
      refine g_iastore (N := 40) dX10_readsItem_91 92 rfl rfl (by decide) (vp_in_iff.mpr (by decide)) (h' := (hM text (nI ty) told (gup (gup draft 1 (10 * N1.1)) 2 (-1)) s past known images kept notes noted (nI N1.2) alone parts held)) rfl ?_
      refine g_aload_n dX10_readsItem_92 rfl 93 rfl rfl ?_
      refine g_get (v := .ref 3) dX10_readsItem_93 96 rfl lX10_16 rfl rfl ?_
      refine g_iconst 3 dX10_readsItem_96 97 rfl (by decide) ?_
      refine g_iload dX10_readsItem_97 99 rfl rfl ?_
      refine g_iastore (N := 40) dX10_readsItem_99 100 rfl rfl (by decide) (vp_in_iff.mpr (by decide)) (h' := (hM text (nI ty) told (gup (gup (gup draft 1 (10 * N1.1)) 2 (-1)) 3 (-1)) s past known images kept notes noted (nI N1.2) alone parts held)) rfl ?_
      refine g_iload dX10_readsItem_100 102 rfl rfl ?_
      refine g_if_lt dX10_readsItem_102 109 rfl 105 rfl (fun _ => ?_) (fun c => absurd (by decide) c)
      refine g_iconst 0 dX10_readsItem_109 110 rfl (by decide) ?_
      refine g_ireturn dX10_readsItem_110 rfl rfl (Nat.le_refl _) (Nat.le_refl _) ?_
      have e : (rX10_readsItem text draft letter ty ax dz) = (false, (gup (gup (gup draft 1 (10 * N1.1)) 2 (-1)) 3 (-1)), N1.2) := by rw [rX10_readsItem, if_pos c1, hN1, if_neg c2]
      rw [e]
      exact ⟨rfl, rfl⟩
  · have c1 : ¬ letter = 102 := fun z => absurd (c1b.symm.trans z) (by decide)
    refine g_aload_n dX10_readsItem_111 rfl 112 rfl rfl ?_
    refine g_iconst 0 dX10_readsItem_112 113 rfl (by decide) ?_
    refine g_iconst 3 dX10_readsItem_113 114 rfl (by decide) ?_
    refine g_bipush 44 dX10_readsItem_114 116 rfl (by decide) ?_
    refine g_cVv (as := [.int 0, .int 3, .int 44]) (st := []) dX10_readsItem_116 119 rfl kX10_69 ⟨Nat.le_of_ble_eq_true rfl, Nat.le_of_ble_eq_true rfl⟩ (MX10_number (ty := ty) (ax := ax) 0 3 44 (by omega) (by omega)) rfl rfl rfl rfl (Nat.le_of_ble_eq_true rfl) (Nat.le_refl _) (Nat.le_refl _) ?_
    have bN4 := number_le (text := text) (low := 0) (high := 3) (en := 44) (ty := ty) (ax := ax)
    generalize hN4 : (rX10_number text 0 3 44 ty ax) = N4 at bN4 ⊢
    refine g_istore2 dX10_readsItem_119 120 rfl (by decide) rfl ?_
    refine g_iload_n dX10_readsItem_120 rfl 121 rfl rfl ?_
    refine g_if_ge dX10_readsItem_121 128 rfl 124 rfl (fun c5 => ?_) (fun c5 => ?_)
    · refine g_aload_n dX10_readsItem_128 rfl 129 rfl rfl ?_
      refine g_iconst 0 dX10_readsItem_129 130 rfl (by decide) ?_
      refine g_bipush 99 dX10_readsItem_130 132 rfl (by decide) ?_
      refine g_bipush 44 dX10_readsItem_132 134 rfl (by decide) ?_
      refine g_cVv (as := [.int 0, .int 99, .int 44]) (st := []) dX10_readsItem_134 137 rfl kX10_69 ⟨Nat.le_of_ble_eq_true rfl, Nat.le_of_ble_eq_true rfl⟩ (MX10_number (ty := ty) (ax := N4.2) 0 99 44 (by omega) (by omega)) rfl rfl rfl rfl (Nat.le_of_ble_eq_true rfl) (Nat.le_refl _) (Nat.le_refl _) ?_
      have bN5 := number_le (text := text) (low := 0) (high := 99) (en := 44) (ty := ty) (ax := N4.2)
      generalize hN5 : (rX10_number text 0 99 44 ty N4.2) = N5 at bN5 ⊢
      refine g_istore3 dX10_readsItem_137 138 rfl (by decide) rfl ?_
      refine g_iload_n dX10_readsItem_138 rfl 139 rfl rfl ?_
      refine g_if_ge dX10_readsItem_139 146 rfl 142 rfl (fun c6 => ?_) (fun c6 => ?_)
      · refine g_aload_n dX10_readsItem_146 rfl 147 rfl rfl ?_
        refine g_iconst 0 dX10_readsItem_147 148 rfl (by decide) ?_
        refine g_bipush 99 dX10_readsItem_148 150 rfl (by decide) ?_
        refine g_bipush 44 dX10_readsItem_150 152 rfl (by decide) ?_
        refine g_cVv (as := [.int 0, .int 99, .int 44]) (st := []) dX10_readsItem_152 155 rfl kX10_69 ⟨Nat.le_of_ble_eq_true rfl, Nat.le_of_ble_eq_true rfl⟩ (MX10_number (ty := ty) (ax := N5.2) 0 99 44 (by omega) (by omega)) rfl rfl rfl rfl (Nat.le_of_ble_eq_true rfl) (Nat.le_refl _) (Nat.le_refl _) ?_
        have bN6 := number_le (text := text) (low := 0) (high := 99) (en := 44) (ty := ty) (ax := N5.2)
        generalize hN6 : (rX10_number text 0 99 44 ty N5.2) = N6 at bN6 ⊢
        refine g_istore4 dX10_readsItem_155 157 rfl (by decide) rfl ?_
        refine g_iload dX10_readsItem_157 159 rfl rfl ?_
        refine g_if_ge dX10_readsItem_159 166 rfl 162 rfl (fun c7 => ?_) (fun c7 => ?_)
        · refine g_aload_n dX10_readsItem_166 rfl 167 rfl rfl ?_
          refine g_iconst 0 dX10_readsItem_167 168 rfl (by decide) ?_
          refine g_iconst 5 dX10_readsItem_168 169 rfl (by decide) ?_
          refine g_bipush 59 dX10_readsItem_169 171 rfl (by decide) ?_
          refine g_cVv (as := [.int 0, .int 5, .int 59]) (st := []) dX10_readsItem_171 174 rfl kX10_69 ⟨Nat.le_of_ble_eq_true rfl, Nat.le_of_ble_eq_true rfl⟩ (MX10_number (ty := ty) (ax := N6.2) 0 5 59 (by omega) (by omega)) rfl rfl rfl rfl (Nat.le_of_ble_eq_true rfl) (Nat.le_refl _) (Nat.le_refl _) ?_
          have bN7 := number_le (text := text) (low := 0) (high := 5) (en := 59) (ty := ty) (ax := N6.2)
          generalize hN7 : (rX10_number text 0 5 59 ty N6.2) = N7 at bN7 ⊢
          refine g_istore5 dX10_readsItem_174 176 rfl (by decide) rfl ?_
          refine g_iload dX10_readsItem_176 178 rfl rfl ?_
          refine g_if_lt dX10_readsItem_178 192 rfl 181 rfl (fun c8 => ?_) (fun c8 => ?_)
          · refine g_iconst 0 dX10_readsItem_192 193 rfl (by decide) ?_
            refine g_ireturn dX10_readsItem_193 rfl rfl (Nat.le_refl _) (Nat.le_refl _) ?_
            have e : (rX10_readsItem text draft letter ty ax dz) = (false, draft, N7.2) := by rw [rX10_readsItem, if_neg c1, if_pos c1b, hN4, if_pos c5, hN5, if_pos c6, hN6, if_pos c7, hN7, if_pos c8]
            rw [e]
            exact ⟨rfl, rfl⟩
          · refine g_aload_n dX10_readsItem_181 rfl 182 rfl rfl ?_
            refine g_get (v := .ref 3) dX10_readsItem_182 185 rfl lX10_16 rfl rfl ?_
            refine g_iconst 0 dX10_readsItem_185 186 rfl (by decide) ?_
            refine g_iaload' (N := 40) dX10_readsItem_186 187 rfl rfl (vp_in_iff.mpr (by decide)) (nI dz) hdz ?_
            refine g_bipush 9 dX10_readsItem_187 189 rfl (by decide) ?_
            refine g_icmp_ne dX10_readsItem_189 194 rfl 192 rfl (fun c9 => ?_) (fun c9 => ?_)
            · refine g_aload_n dX10_readsItem_194 rfl 195 rfl rfl ?_
              refine g_iload_n dX10_readsItem_195 rfl 196 rfl rfl ?_
              refine g_iload_n dX10_readsItem_196 rfl 197 rfl rfl ?_
              refine g_iload dX10_readsItem_197 199 rfl rfl ?_
              refine g_iload dX10_readsItem_199 201 rfl rfl ?_
              refine g_cV0 (as := [.int N4.1, .int N5.1, .int N6.1, .int N7.1]) (st := []) dX10_readsItem_201 204 rfl kX10_43 ⟨Nat.le_of_ble_eq_true rfl, Nat.le_of_ble_eq_true rfl⟩ (MX10_personOf N4.1 N5.1 N6.1 N7.1 hdz (dz9 hdz9 c9)) rfl rfl rfl rfl (Nat.le_of_ble_eq_true rfl) (Nat.le_refl _) (Nat.le_refl _) ?_
              refine g_iconst 1 dX10_readsItem_204 205 rfl (by decide) ?_
              refine g_ireturn dX10_readsItem_205 rfl rfl (Nat.le_refl _) (Nat.le_refl _) ?_
              have e : (rX10_readsItem text draft letter ty ax dz) = (true, (rX10_personOf draft N4.1 N5.1 N6.1 N7.1 dz), N7.2) := by rw [rX10_readsItem, if_neg c1, if_pos c1b, hN4, if_pos c5, hN5, if_pos c6, hN6, if_pos c7, hN7, if_neg c8, if_neg c9]
              rw [e]
              exact ⟨rfl, rfl⟩
            · refine g_iconst 0 dX10_readsItem_192 193 rfl (by decide) ?_
              refine g_ireturn dX10_readsItem_193 rfl rfl (Nat.le_refl _) (Nat.le_refl _) ?_
              have e : (rX10_readsItem text draft letter ty ax dz) = (false, draft, N7.2) := by rw [rX10_readsItem, if_neg c1, if_pos c1b, hN4, if_pos c5, hN5, if_pos c6, hN6, if_pos c7, hN7, if_neg c8, if_pos c9]
              rw [e]
              exact ⟨rfl, rfl⟩
        · refine g_iconst (-1) dX10_readsItem_162 163 rfl (by decide) ?_
          refine g_goto dX10_readsItem_163 174 rfl ?_
          refine g_istore5 dX10_readsItem_174 176 rfl (by decide) rfl ?_
          refine g_iload dX10_readsItem_176 178 rfl rfl ?_
          refine g_if_lt dX10_readsItem_178 192 rfl 181 rfl (fun _ => ?_) (fun c => absurd (by decide) c)
          refine g_iconst 0 dX10_readsItem_192 193 rfl (by decide) ?_
          refine g_ireturn dX10_readsItem_193 rfl rfl (Nat.le_refl _) (Nat.le_refl _) ?_
          have e : (rX10_readsItem text draft letter ty ax dz) = (false, draft, N6.2) := by rw [rX10_readsItem, if_neg c1, if_pos c1b, hN4, if_pos c5, hN5, if_pos c6, hN6, if_neg c7]
          rw [e]
          exact ⟨rfl, rfl⟩
      · refine g_iconst (-1) dX10_readsItem_142 143 rfl (by decide) ?_
        refine g_goto dX10_readsItem_143 155 rfl ?_
        refine g_istore4 dX10_readsItem_155 157 rfl (by decide) rfl ?_
        refine g_iload dX10_readsItem_157 159 rfl rfl ?_
        refine g_if_ge dX10_readsItem_159 166 rfl 162 rfl (fun c => absurd c (by decide)) (fun _ => ?_)
        refine g_iconst (-1) dX10_readsItem_162 163 rfl (by decide) ?_
        refine g_goto dX10_readsItem_163 174 rfl ?_
        refine g_istore5 dX10_readsItem_174 176 rfl (by decide) rfl ?_
        refine g_iload dX10_readsItem_176 178 rfl rfl ?_
        refine g_if_lt dX10_readsItem_178 192 rfl 181 rfl (fun _ => ?_) (fun c => absurd (by decide) c)
        refine g_iconst 0 dX10_readsItem_192 193 rfl (by decide) ?_
        refine g_ireturn dX10_readsItem_193 rfl rfl (Nat.le_refl _) (Nat.le_refl _) ?_
        have e : (rX10_readsItem text draft letter ty ax dz) = (false, draft, N5.2) := by rw [rX10_readsItem, if_neg c1, if_pos c1b, hN4, if_pos c5, hN5, if_neg c6]
        rw [e]
        exact ⟨rfl, rfl⟩
    · refine g_iconst (-1) dX10_readsItem_124 125 rfl (by decide) ?_
      refine g_goto dX10_readsItem_125 137 rfl ?_
      refine g_istore3 dX10_readsItem_137 138 rfl (by decide) rfl ?_
      refine g_iload_n dX10_readsItem_138 rfl 139 rfl rfl ?_
      refine g_if_ge dX10_readsItem_139 146 rfl 142 rfl (fun c => absurd c (by decide)) (fun _ => ?_)
      refine g_iconst (-1) dX10_readsItem_142 143 rfl (by decide) ?_
      refine g_goto dX10_readsItem_143 155 rfl ?_
      refine g_istore4 dX10_readsItem_155 157 rfl (by decide) rfl ?_
      refine g_iload dX10_readsItem_157 159 rfl rfl ?_
      refine g_if_ge dX10_readsItem_159 166 rfl 162 rfl (fun c => absurd c (by decide)) (fun _ => ?_)
      refine g_iconst (-1) dX10_readsItem_162 163 rfl (by decide) ?_
      refine g_goto dX10_readsItem_163 174 rfl ?_
      refine g_istore5 dX10_readsItem_174 176 rfl (by decide) rfl ?_
      refine g_iload dX10_readsItem_176 178 rfl rfl ?_
      refine g_if_lt dX10_readsItem_178 192 rfl 181 rfl (fun _ => ?_) (fun c => absurd (by decide) c)
      refine g_iconst 0 dX10_readsItem_192 193 rfl (by decide) ?_
      refine g_ireturn dX10_readsItem_193 rfl rfl (Nat.le_refl _) (Nat.le_refl _) ?_
      have e : (rX10_readsItem text draft letter ty ax dz) = (false, draft, N4.2) := by rw [rX10_readsItem, if_neg c1, if_pos c1b, hN4, if_neg c5]
      rw [e]
      exact ⟨rfl, rfl⟩
  · refine g_iconst 0 dX10_readsItem_206 207 rfl (by decide) ?_
    refine g_ireturn dX10_readsItem_207 rfl rfl (Nat.le_refl _) (Nat.le_refl _) ?_
    have e : (rX10_readsItem text draft letter ty ax dz) = (false, draft, ax) := by rw [rX10_readsItem, if_neg c1, if_neg c1b]
    rw [e]
    exact ⟨rfl, rfl⟩
