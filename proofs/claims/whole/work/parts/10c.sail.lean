/-! the reference: waits, sailings, who is in which sets -/
def fX10_waits_13 (told : Int32 → Int32) (minute : Int32) (sz : Nat) : Nat → ((Int32 → Int32) × Int32) → Bool × ((Int32 → Int32) × Int32)
  | i, (s, u0) => (if u0 = (-4) then (if (rX10_isThere told (gup s 18 (minute + (nI i))) sz) = true then (false, ((gup s 18 (minute + (nI i))), (nI i))) else (false, ((gup s 18 (minute + (nI i))), (-4)))) else (true, (s, u0)))
set_option maxRecDepth 100000 in
set_option maxHeartbeats 4000000 in
theorem LX10_waits_13 {w : gW} {al : Bool} {typed known kept noted at_ : Int32} {text told draft past images notes alone parts held : Int32 → Int32} {n : Nat} {P : gP} {sz : Nat} {minute : Int32} (hsz : told 0 = nI sz) (hs : sz ≤ 9)  : ∀ (d i : Nat) (s : Int32 → Int32) (u0 : Int32), i + d = 100 → G w gT0 al n mX10_waits 0 0 P 0 0 (hM text typed told draft ((gWh (fX10_waits_13 told minute sz) d i (s, u0)).1) past known images kept notes noted at_ alone parts held) 55 [.ref 0, .int minute, .int ((gWh (fX10_waits_13 told minute sz) d i (s, u0)).2), gF] [] → G w gT0 al n mX10_waits 0 0 P 0 0 (hM text typed told draft s past known images kept notes noted at_ alone parts held) 13 [.ref 0, .int minute, .int u0, .int (nI i)] []
  | 0, i, s, u0, hi, k => by
    have hN : i = 100 := by omega
    rw [hN]
    rw [hN] at k
    refine g_iload_n dX10_waits_13 rfl 14 rfl rfl ?_
    refine g_bipush 100 dX10_waits_14 16 rfl (by decide) ?_
    refine g_icmp_ge dX10_waits_16 55 rfl 19 rfl (fun _ => ?_) (fun c => absurd (nI_le (a := 100) (b := 100) (by omega) (by omega)) c)
    refine g_fgt (L' := [.ref 0, .int minute, .int u0, gF]) ⟨Or.inl rfl, Or.inl rfl, Or.inl rfl, Or.inr rfl, trivial⟩ ?_
    exact k
  | d + 1, i, s, u0, hi, k => by
    refine g_iload_n dX10_waits_13 rfl 14 rfl rfl ?_
    refine g_bipush 100 dX10_waits_14 16 rfl (by decide) ?_
    refine g_icmp_ge dX10_waits_16 55 rfl 19 rfl (fun c => absurd c (nI_ge (a := i) (b := 100) (by omega) (by omega))) (fun _ => ?_)
    refine g_iload_n dX10_waits_19 rfl 20 rfl rfl ?_
    refine g_bipush (-4) dX10_waits_20 22 rfl (by decide) ?_
    refine g_icmp_ne dX10_waits_22 55 rfl 25 rfl (fun c1 => ?_) (fun c1 => ?_)
    · refine g_fgt (L' := [.ref 0, .int minute, .int u0, gF]) ⟨Or.inl rfl, Or.inl rfl, Or.inl rfl, Or.inr rfl, trivial⟩ ?_
      have e : (fX10_waits_13 told minute sz) i (s, u0) = (true, (s, u0)) := by rw [fX10_waits_13, if_neg c1]
      rw [gWh_t e] at k
      exact k
    · refine g_aload_n dX10_waits_25 rfl 26 rfl rfl ?_
      refine g_get (v := .ref 4) dX10_waits_26 29 rfl lX10_19 rfl rfl ?_
      refine g_bipush 18 dX10_waits_29 31 rfl (by decide) ?_
      refine g_iload_n dX10_waits_31 rfl 32 rfl rfl ?_
      refine g_iload_n dX10_waits_32 rfl 33 rfl rfl ?_
      refine g_iadd dX10_waits_33 34 rfl ?_
      refine g_iastore (N := 21) dX10_waits_34 35 rfl rfl (by decide) (vp_in_iff.mpr (by decide)) (h' := (hM text typed told draft (gup s 18 (minute + (nI i))) past known images kept notes noted at_ alone parts held)) rfl ?_
      refine g_aload_n dX10_waits_35 rfl 36 rfl rfl ?_
      refine g_cVv (as := []) (st := []) dX10_waits_36 39 rfl kX10_122 ⟨Nat.le_of_ble_eq_true rfl, Nat.le_of_ble_eq_true rfl⟩ (MX10_isThere hsz hs) rfl rfl rfl rfl (Nat.le_of_ble_eq_true rfl) (Nat.le_refl _) (Nat.le_refl _) ?_
      refine g_if_eq dX10_waits_39 46 rfl 42 rfl (fun c2 => ?_) (fun c2 => ?_)
      · replace c2 := gB_f c2
        refine g_bipush (-4) dX10_waits_46 48 rfl (by decide) ?_
        refine g_istore2 dX10_waits_48 49 rfl (by decide) rfl ?_
        refine g_iinc3 dX10_waits_49 52 rfl 1 (by decide) (nI (i + 1)) (nI_add _ 1) (by decide) rfl ?_
        refine g_goto dX10_waits_52 13 rfl ?_
        have e : (fX10_waits_13 told minute sz) i (s, u0) = (false, ((gup s 18 (minute + (nI i))), (-4))) := by rw [fX10_waits_13, if_pos c1, if_neg c2]
        refine LX10_waits_13 hsz hs d (i + 1) (gup s 18 (minute + (nI i))) (-4) (by omega) ?_
        rw [gWh_f e] at k
        exact k
      · replace c2 := gB_t c2
        refine g_iload_n dX10_waits_42 rfl 43 rfl rfl ?_
        refine g_goto dX10_waits_43 48 rfl ?_
        refine g_istore2 dX10_waits_48 49 rfl (by decide) rfl ?_
        refine g_iinc3 dX10_waits_49 52 rfl 1 (by decide) (nI (i + 1)) (nI_add _ 1) (by decide) rfl ?_
        refine g_goto dX10_waits_52 13 rfl ?_
        have e : (fX10_waits_13 told minute sz) i (s, u0) = (false, ((gup s 18 (minute + (nI i))), (nI i))) := by rw [fX10_waits_13, if_pos c1, if_pos c2]
        refine LX10_waits_13 hsz hs d (i + 1) (gup s 18 (minute + (nI i))) (nI i) (by omega) ?_
        rw [gWh_f e] at k
        exact k
def rX10_waits (told : Int32 → Int32) (s : Int32 → Int32) (sz : Nat) : Int32 × (Int32 → Int32) := (((gWh (fX10_waits_13 told (s 18) sz) 100 0 (s, (-4))).2), (gup ((gWh (fX10_waits_13 told (s 18) sz) 100 0 (s, (-4))).1) 18 (s 18)))
set_option maxRecDepth 100000 in
set_option maxHeartbeats 4000000 in
theorem MX10_waits {w : gW} {al : Bool} {typed known kept noted at_ : Int32} {text told draft s past images notes alone parts held : Int32 → Int32} {sz : Nat} (hsz : told 0 = nI sz) (hs : sz ≤ 9)  : M w gT0 al mX10_waits 0 0 (hM text typed told draft s past known images kept notes noted at_ alone parts held) [.ref 0] (gEq (hM text typed told draft ((rX10_waits told s sz).2) past known images kept notes noted at_ alone parts held) (some (.int ((rX10_waits told s sz).1)))) := by
  refine M.of (L0 := [.ref 0, gF, gF, gF]) (by decide +kernel) (Nat.le_of_ble_eq_true rfl) rfl ?_
  refine g_aload_n dX10_waits_0 rfl 1 rfl rfl ?_
  refine g_get (v := .ref 4) dX10_waits_1 4 rfl lX10_19 rfl rfl ?_
  refine g_bipush 18 dX10_waits_4 6 rfl (by decide) ?_
  refine g_iaload (N := 21) dX10_waits_6 7 rfl rfl (vp_in_iff.mpr (by decide)) ?_
  refine g_istore1 dX10_waits_7 8 rfl (by decide) rfl ?_
  refine g_bipush (-4) dX10_waits_8 10 rfl (by decide) ?_
  refine g_istore2 dX10_waits_10 11 rfl (by decide) rfl ?_
  refine g_iconst 0 dX10_waits_11 12 rfl (by decide) ?_
  refine g_istore3 dX10_waits_12 13 rfl (by decide) rfl ?_
  refine LX10_waits_13 hsz hs 100 0 s (-4) (by omega) ?_
  refine g_aload_n dX10_waits_55 rfl 56 rfl rfl ?_
  refine g_get (v := .ref 4) dX10_waits_56 59 rfl lX10_19 rfl rfl ?_
  refine g_bipush 18 dX10_waits_59 61 rfl (by decide) ?_
  refine g_iload_n dX10_waits_61 rfl 62 rfl rfl ?_
  refine g_iastore (N := 21) dX10_waits_62 63 rfl rfl (by decide) (vp_in_iff.mpr (by decide)) (h' := (hM text typed told draft (gup ((gWh (fX10_waits_13 told (s 18) sz) 100 0 (s, (-4))).1) 18 (s 18)) past known images kept notes noted at_ alone parts held)) rfl ?_
  refine g_iload_n dX10_waits_63 rfl 64 rfl rfl ?_
  refine g_ireturn dX10_waits_64 rfl rfl (Nat.le_refl _) (Nat.le_refl _) ?_
  have e : (rX10_waits told s sz) = (((gWh (fX10_waits_13 told (s 18) sz) 100 0 (s, (-4))).2), (gup ((gWh (fX10_waits_13 told (s 18) sz) 100 0 (s, (-4))).1) 18 (s 18))) := by rw [rX10_waits]
  rw [e]
  exact ⟨rfl, rfl⟩
theorem o_pos {o : Nat} (h : ¬ nI o ≤ 0) : 1 ≤ o := by
  rcases Nat.eq_zero_or_pos o with z | z
  · subst z; exact absurd (by decide) h
  · exact z
def fX10_splits_68 (alone : Int32 → Int32) (v : Nat) : Nat → (Nat × (Int32 → Int32)) → Bool × (Nat × (Int32 → Int32))
  | _, (o, parts) => (if (nI o) ≤ 0 then (true, (o, parts)) else (if (alone (nI o)) < 0 then (if (-1000000) ≤ (parts (nI v)) then (false, (((o - 1) &&& v), (gup parts (nI v) (parts (nI v))))) else (false, (((o - 1) &&& v), (gup parts (nI v) (-1000000))))) else (if (parts (nI (v ^^^ (v &&& o)))) = (-1000000) then (if (-1000000) ≤ (parts (nI v)) then (false, (((o - 1) &&& v), (gup parts (nI v) (parts (nI v))))) else (false, (((o - 1) &&& v), (gup parts (nI v) (-1000000))))) else (if (((parts (nI (v ^^^ (v &&& o)))) + 100000) - (alone (nI o))) ≤ (parts (nI v)) then (false, (((o - 1) &&& v), (gup parts (nI v) (parts (nI v))))) else (false, (((o - 1) &&& v), (gup parts (nI v) (((parts (nI (v ^^^ (v &&& o)))) + 100000) - (alone (nI o))))))))))
set_option maxRecDepth 100000 in
set_option maxHeartbeats 4000000 in
theorem LX10_splits_68 {w : gW} {al : Bool} {typed known kept noted at_ : Int32} {text told draft s past images notes alone held : Int32 → Int32} {n : Nat} {P : gP} {sz : Nat} {alive : Int32} {v : Nat} (hsz : told 0 = nI sz) (hs : sz ≤ 9) (hv : v < 512)  : ∀ (d i : Nat) (o : Nat) (parts : Int32 → Int32), gWhT (fX10_splits_68 alone v) d i (o, parts) → o ≤ v → G w gT0 al n mX10_splits 0 0 P 0 0 (hM text typed told draft s past known images kept notes noted at_ alone ((gWh (fX10_splits_68 alone v) d i (o, parts)).2) held) 156 [.ref 0, .int alive, .int (nI v), .int (nI ((gWh (fX10_splits_68 alone v) d i (o, parts)).1)), gF, gF] [] → G w gT0 al n mX10_splits 0 0 P 0 0 (hM text typed told draft s past known images kept notes noted at_ alone parts held) 68 [.ref 0, .int alive, .int (nI v), .int (nI o), gF, gF] []
  | 0, i, o, parts, hT, hinv, k => absurd hT (by simp [gWhT])
  | d + 1, i, o, parts, hT, hinv, k => by
    refine g_iload_n dX10_splits_68 rfl 69 rfl rfl ?_
    refine g_if_le dX10_splits_69 156 rfl 72 rfl (fun c1 => ?_) (fun c1 => ?_)
    · have e : (fX10_splits_68 alone v) i (o, parts) = (true, (o, parts)) := by rw [fX10_splits_68, if_pos c1]
      rw [gWh_t e] at k
      exact k
    · refine g_aload_n dX10_splits_72 rfl 73 rfl rfl ?_
      refine g_get (v := .ref 9) dX10_splits_73 76 rfl lX10_34 rfl rfl ?_
      refine g_iload_n dX10_splits_76 rfl 77 rfl rfl ?_
      refine g_iload_n dX10_splits_77 rfl 78 rfl rfl ?_
      refine g_iconst (-1) dX10_splits_78 79 rfl (by decide) ?_
      refine g_ixor dX10_splits_79 80 rfl ?_
      refine g_iand' dX10_splits_80 81 rfl (nI (v ^^^ (v &&& o))) (z_andn _ _) ?_
      refine g_iaload (N := 512) dX10_splits_81 82 rfl rfl (vp_in_nI (Nat.lt_of_le_of_lt z_le (by omega)) (by decide)) ?_
      refine g_istore4 dX10_splits_82 84 rfl (by decide) rfl ?_
      refine g_aload_n dX10_splits_84 rfl 85 rfl rfl ?_
      refine g_get (v := .ref 8) dX10_splits_85 88 rfl lX10_31 rfl rfl ?_
      refine g_iload_n dX10_splits_88 rfl 89 rfl rfl ?_
      refine g_iaload (N := 512) dX10_splits_89 90 rfl rfl (vp_in_nI (by omega) (by decide)) ?_
      refine g_if_lt dX10_splits_90 115 rfl 93 rfl (fun c2 => ?_) (fun c2 => ?_)
      · refine g_ldc (-1000000) dX10_splits_115 117 rfl vX10_126 ?_
        refine g_istore5 dX10_splits_117 119 rfl (by decide) rfl ?_
        refine g_aload_n dX10_splits_119 rfl 120 rfl rfl ?_
        refine g_get (v := .ref 9) dX10_splits_120 123 rfl lX10_34 rfl rfl ?_
        refine g_iload_n dX10_splits_123 rfl 124 rfl rfl ?_
        refine g_iload dX10_splits_124 126 rfl rfl ?_
        refine g_aload_n dX10_splits_126 rfl 127 rfl rfl ?_
        refine g_get (v := .ref 9) dX10_splits_127 130 rfl lX10_34 rfl rfl ?_
        refine g_iload_n dX10_splits_130 rfl 131 rfl rfl ?_
        refine g_iaload (N := 512) dX10_splits_131 132 rfl rfl (vp_in_nI (by omega) (by decide)) ?_
        refine g_icmp_le dX10_splits_132 140 rfl 135 rfl (fun c3 => ?_) (fun c3 => ?_)
        · refine g_aload_n dX10_splits_140 rfl 141 rfl rfl ?_
          refine g_get (v := .ref 9) dX10_splits_141 144 rfl lX10_34 rfl rfl ?_
          refine g_iload_n dX10_splits_144 rfl 145 rfl rfl ?_
          refine g_iaload (N := 512) dX10_splits_145 146 rfl rfl (vp_in_nI (by omega) (by decide)) ?_
          refine g_iastore (N := 512) dX10_splits_146 147 rfl rfl (by decide) (vp_in_nI (by omega) (by decide)) (h' := (hM text typed told draft s past known images kept notes noted at_ alone (gup parts (nI v) (parts (nI v))) held)) rfl ?_
          refine g_iload_n dX10_splits_147 rfl 148 rfl rfl ?_
          refine g_iconst 1 dX10_splits_148 149 rfl (by decide) ?_
          refine g_isub' dX10_splits_149 150 rfl (nI (o - 1)) (pk_sub (a := o) (b := 1) (o_pos c1)) ?_
          refine g_iload_n dX10_splits_150 rfl 151 rfl rfl ?_
          refine g_iand' dX10_splits_151 152 rfl (nI ((o - 1) &&& v)) (z_and _ _) ?_
          refine g_istore3 dX10_splits_152 153 rfl (by decide) rfl ?_
          refine g_goto dX10_splits_153 68 rfl ?_
          refine g_fgt (L' := [.ref 0, .int alive, .int (nI v), .int (nI ((o - 1) &&& v)), gF, gF]) ⟨Or.inl rfl, Or.inl rfl, Or.inl rfl, Or.inl rfl, Or.inr rfl, Or.inr rfl, trivial⟩ ?_
          have e : (fX10_splits_68 alone v) i (o, parts) = (false, (((o - 1) &&& v), (gup parts (nI v) (parts (nI v))))) := by rw [fX10_splits_68, if_neg c1, if_pos c2, if_pos c3]
          refine LX10_splits_68 hsz hs hv d (i + 1) ((o - 1) &&& v) (gup parts (nI v) (parts (nI v))) (gWhT_f e hT) (Nat.le_trans (Nat.and_le_right) (Nat.le_refl _)) ?_
          rw [gWh_f e] at k
          exact k
        · refine g_iload dX10_splits_135 137 rfl rfl ?_
          refine g_goto dX10_splits_137 146 rfl ?_
          refine g_iastore (N := 512) dX10_splits_146 147 rfl rfl (by decide) (vp_in_nI (by omega) (by decide)) (h' := (hM text typed told draft s past known images kept notes noted at_ alone (gup parts (nI v) (-1000000)) held)) rfl ?_
          refine g_iload_n dX10_splits_147 rfl 148 rfl rfl ?_
          refine g_iconst 1 dX10_splits_148 149 rfl (by decide) ?_
          refine g_isub' dX10_splits_149 150 rfl (nI (o - 1)) (pk_sub (a := o) (b := 1) (o_pos c1)) ?_
          refine g_iload_n dX10_splits_150 rfl 151 rfl rfl ?_
          refine g_iand' dX10_splits_151 152 rfl (nI ((o - 1) &&& v)) (z_and _ _) ?_
          refine g_istore3 dX10_splits_152 153 rfl (by decide) rfl ?_
          refine g_goto dX10_splits_153 68 rfl ?_
          refine g_fgt (L' := [.ref 0, .int alive, .int (nI v), .int (nI ((o - 1) &&& v)), gF, gF]) ⟨Or.inl rfl, Or.inl rfl, Or.inl rfl, Or.inl rfl, Or.inr rfl, Or.inr rfl, trivial⟩ ?_
          have e : (fX10_splits_68 alone v) i (o, parts) = (false, (((o - 1) &&& v), (gup parts (nI v) (-1000000)))) := by rw [fX10_splits_68, if_neg c1, if_pos c2, if_neg c3]
          refine LX10_splits_68 hsz hs hv d (i + 1) ((o - 1) &&& v) (gup parts (nI v) (-1000000)) (gWhT_f e hT) (Nat.le_trans (Nat.and_le_right) (Nat.le_refl _)) ?_
          rw [gWh_f e] at k
          exact k
      · refine g_iload dX10_splits_93 95 rfl rfl ?_
        refine g_ldc (-1000000) dX10_splits_95 97 rfl vX10_126 ?_
        refine g_icmp_eq dX10_splits_97 115 rfl 100 rfl (fun c4 => ?_) (fun c4 => ?_)
        · refine g_ldc (-1000000) dX10_splits_115 117 rfl vX10_126 ?_
          refine g_istore5 dX10_splits_117 119 rfl (by decide) rfl ?_
          refine g_aload_n dX10_splits_119 rfl 120 rfl rfl ?_
          refine g_get (v := .ref 9) dX10_splits_120 123 rfl lX10_34 rfl rfl ?_
          refine g_iload_n dX10_splits_123 rfl 124 rfl rfl ?_
          refine g_iload dX10_splits_124 126 rfl rfl ?_
          refine g_aload_n dX10_splits_126 rfl 127 rfl rfl ?_
          refine g_get (v := .ref 9) dX10_splits_127 130 rfl lX10_34 rfl rfl ?_
          refine g_iload_n dX10_splits_130 rfl 131 rfl rfl ?_
          refine g_iaload (N := 512) dX10_splits_131 132 rfl rfl (vp_in_nI (by omega) (by decide)) ?_
          refine g_icmp_le dX10_splits_132 140 rfl 135 rfl (fun c5 => ?_) (fun c5 => ?_)
          · refine g_aload_n dX10_splits_140 rfl 141 rfl rfl ?_
            refine g_get (v := .ref 9) dX10_splits_141 144 rfl lX10_34 rfl rfl ?_
            refine g_iload_n dX10_splits_144 rfl 145 rfl rfl ?_
            refine g_iaload (N := 512) dX10_splits_145 146 rfl rfl (vp_in_nI (by omega) (by decide)) ?_
            refine g_iastore (N := 512) dX10_splits_146 147 rfl rfl (by decide) (vp_in_nI (by omega) (by decide)) (h' := (hM text typed told draft s past known images kept notes noted at_ alone (gup parts (nI v) (parts (nI v))) held)) rfl ?_
            refine g_iload_n dX10_splits_147 rfl 148 rfl rfl ?_
            refine g_iconst 1 dX10_splits_148 149 rfl (by decide) ?_
            refine g_isub' dX10_splits_149 150 rfl (nI (o - 1)) (pk_sub (a := o) (b := 1) (o_pos c1)) ?_
            refine g_iload_n dX10_splits_150 rfl 151 rfl rfl ?_
            refine g_iand' dX10_splits_151 152 rfl (nI ((o - 1) &&& v)) (z_and _ _) ?_
            refine g_istore3 dX10_splits_152 153 rfl (by decide) rfl ?_
            refine g_goto dX10_splits_153 68 rfl ?_
            refine g_fgt (L' := [.ref 0, .int alive, .int (nI v), .int (nI ((o - 1) &&& v)), gF, gF]) ⟨Or.inl rfl, Or.inl rfl, Or.inl rfl, Or.inl rfl, Or.inr rfl, Or.inr rfl, trivial⟩ ?_
            have e : (fX10_splits_68 alone v) i (o, parts) = (false, (((o - 1) &&& v), (gup parts (nI v) (parts (nI v))))) := by rw [fX10_splits_68, if_neg c1, if_neg c2, if_pos c4, if_pos c5]
            refine LX10_splits_68 hsz hs hv d (i + 1) ((o - 1) &&& v) (gup parts (nI v) (parts (nI v))) (gWhT_f e hT) (Nat.le_trans (Nat.and_le_right) (Nat.le_refl _)) ?_
            rw [gWh_f e] at k
            exact k
          · refine g_iload dX10_splits_135 137 rfl rfl ?_
            refine g_goto dX10_splits_137 146 rfl ?_
            refine g_iastore (N := 512) dX10_splits_146 147 rfl rfl (by decide) (vp_in_nI (by omega) (by decide)) (h' := (hM text typed told draft s past known images kept notes noted at_ alone (gup parts (nI v) (-1000000)) held)) rfl ?_
            refine g_iload_n dX10_splits_147 rfl 148 rfl rfl ?_
            refine g_iconst 1 dX10_splits_148 149 rfl (by decide) ?_
            refine g_isub' dX10_splits_149 150 rfl (nI (o - 1)) (pk_sub (a := o) (b := 1) (o_pos c1)) ?_
            refine g_iload_n dX10_splits_150 rfl 151 rfl rfl ?_
            refine g_iand' dX10_splits_151 152 rfl (nI ((o - 1) &&& v)) (z_and _ _) ?_
            refine g_istore3 dX10_splits_152 153 rfl (by decide) rfl ?_
            refine g_goto dX10_splits_153 68 rfl ?_
            refine g_fgt (L' := [.ref 0, .int alive, .int (nI v), .int (nI ((o - 1) &&& v)), gF, gF]) ⟨Or.inl rfl, Or.inl rfl, Or.inl rfl, Or.inl rfl, Or.inr rfl, Or.inr rfl, trivial⟩ ?_
            have e : (fX10_splits_68 alone v) i (o, parts) = (false, (((o - 1) &&& v), (gup parts (nI v) (-1000000)))) := by rw [fX10_splits_68, if_neg c1, if_neg c2, if_pos c4, if_neg c5]
            refine LX10_splits_68 hsz hs hv d (i + 1) ((o - 1) &&& v) (gup parts (nI v) (-1000000)) (gWhT_f e hT) (Nat.le_trans (Nat.and_le_right) (Nat.le_refl _)) ?_
            rw [gWh_f e] at k
            exact k
        · refine g_iload dX10_splits_100 102 rfl rfl ?_
          refine g_ldc (100000) dX10_splits_102 104 rfl vX10_127 ?_
          refine g_iadd dX10_splits_104 105 rfl ?_
          refine g_aload_n dX10_splits_105 rfl 106 rfl rfl ?_
          refine g_get (v := .ref 8) dX10_splits_106 109 rfl lX10_31 rfl rfl ?_
          refine g_iload_n dX10_splits_109 rfl 110 rfl rfl ?_
          refine g_iaload (N := 512) dX10_splits_110 111 rfl rfl (vp_in_nI (by omega) (by decide)) ?_
          refine g_isub dX10_splits_111 112 rfl ?_
          refine g_goto dX10_splits_112 117 rfl ?_
          refine g_istore5 dX10_splits_117 119 rfl (by decide) rfl ?_
          refine g_aload_n dX10_splits_119 rfl 120 rfl rfl ?_
          refine g_get (v := .ref 9) dX10_splits_120 123 rfl lX10_34 rfl rfl ?_
          refine g_iload_n dX10_splits_123 rfl 124 rfl rfl ?_
          refine g_iload dX10_splits_124 126 rfl rfl ?_
          refine g_aload_n dX10_splits_126 rfl 127 rfl rfl ?_
          refine g_get (v := .ref 9) dX10_splits_127 130 rfl lX10_34 rfl rfl ?_
          refine g_iload_n dX10_splits_130 rfl 131 rfl rfl ?_
          refine g_iaload (N := 512) dX10_splits_131 132 rfl rfl (vp_in_nI (by omega) (by decide)) ?_
          refine g_icmp_le dX10_splits_132 140 rfl 135 rfl (fun c6 => ?_) (fun c6 => ?_)
          · refine g_aload_n dX10_splits_140 rfl 141 rfl rfl ?_
            refine g_get (v := .ref 9) dX10_splits_141 144 rfl lX10_34 rfl rfl ?_
            refine g_iload_n dX10_splits_144 rfl 145 rfl rfl ?_
            refine g_iaload (N := 512) dX10_splits_145 146 rfl rfl (vp_in_nI (by omega) (by decide)) ?_
            refine g_iastore (N := 512) dX10_splits_146 147 rfl rfl (by decide) (vp_in_nI (by omega) (by decide)) (h' := (hM text typed told draft s past known images kept notes noted at_ alone (gup parts (nI v) (parts (nI v))) held)) rfl ?_
            refine g_iload_n dX10_splits_147 rfl 148 rfl rfl ?_
            refine g_iconst 1 dX10_splits_148 149 rfl (by decide) ?_
            refine g_isub' dX10_splits_149 150 rfl (nI (o - 1)) (pk_sub (a := o) (b := 1) (o_pos c1)) ?_
            refine g_iload_n dX10_splits_150 rfl 151 rfl rfl ?_
            refine g_iand' dX10_splits_151 152 rfl (nI ((o - 1) &&& v)) (z_and _ _) ?_
            refine g_istore3 dX10_splits_152 153 rfl (by decide) rfl ?_
            refine g_goto dX10_splits_153 68 rfl ?_
            refine g_fgt (L' := [.ref 0, .int alive, .int (nI v), .int (nI ((o - 1) &&& v)), gF, gF]) ⟨Or.inl rfl, Or.inl rfl, Or.inl rfl, Or.inl rfl, Or.inr rfl, Or.inr rfl, trivial⟩ ?_
            have e : (fX10_splits_68 alone v) i (o, parts) = (false, (((o - 1) &&& v), (gup parts (nI v) (parts (nI v))))) := by rw [fX10_splits_68, if_neg c1, if_neg c2, if_neg c4, if_pos c6]
            refine LX10_splits_68 hsz hs hv d (i + 1) ((o - 1) &&& v) (gup parts (nI v) (parts (nI v))) (gWhT_f e hT) (Nat.le_trans (Nat.and_le_right) (Nat.le_refl _)) ?_
            rw [gWh_f e] at k
            exact k
          · refine g_iload dX10_splits_135 137 rfl rfl ?_
            refine g_goto dX10_splits_137 146 rfl ?_
            refine g_iastore (N := 512) dX10_splits_146 147 rfl rfl (by decide) (vp_in_nI (by omega) (by decide)) (h' := (hM text typed told draft s past known images kept notes noted at_ alone (gup parts (nI v) (((parts (nI (v ^^^ (v &&& o)))) + 100000) - (alone (nI o)))) held)) rfl ?_
            refine g_iload_n dX10_splits_147 rfl 148 rfl rfl ?_
            refine g_iconst 1 dX10_splits_148 149 rfl (by decide) ?_
            refine g_isub' dX10_splits_149 150 rfl (nI (o - 1)) (pk_sub (a := o) (b := 1) (o_pos c1)) ?_
            refine g_iload_n dX10_splits_150 rfl 151 rfl rfl ?_
            refine g_iand' dX10_splits_151 152 rfl (nI ((o - 1) &&& v)) (z_and _ _) ?_
            refine g_istore3 dX10_splits_152 153 rfl (by decide) rfl ?_
            refine g_goto dX10_splits_153 68 rfl ?_
            refine g_fgt (L' := [.ref 0, .int alive, .int (nI v), .int (nI ((o - 1) &&& v)), gF, gF]) ⟨Or.inl rfl, Or.inl rfl, Or.inl rfl, Or.inl rfl, Or.inr rfl, Or.inr rfl, trivial⟩ ?_
            have e : (fX10_splits_68 alone v) i (o, parts) = (false, (((o - 1) &&& v), (gup parts (nI v) (((parts (nI (v ^^^ (v &&& o)))) + 100000) - (alone (nI o)))))) := by rw [fX10_splits_68, if_neg c1, if_neg c2, if_neg c4, if_neg c6]
            refine LX10_splits_68 hsz hs hv d (i + 1) ((o - 1) &&& v) (gup parts (nI v) (((parts (nI (v ^^^ (v &&& o)))) + 100000) - (alone (nI o)))) (gWhT_f e hT) (Nat.le_trans (Nat.and_le_right) (Nat.le_refl _)) ?_
            rw [gWh_f e] at k
            exact k
theorem splT {alone : Int32 → Int32} {v : Nat} : ∀ (d i o : Nat) (parts : Int32 → Int32), o < d → gWhT (fX10_splits_68 alone v) d i (o, parts)
  | 0, i, o, parts, h => absurd h (Nat.not_lt_zero _)
  | d + 1, i, o, parts, h => by
    by_cases c : nI o ≤ 0
    · exact Or.inl (by rw [fX10_splits_68, if_pos c])
    · have h1 := o_pos c
      have h2 : ∀ p2, gWhT (fX10_splits_68 alone v) d (i + 1) ((o - 1) &&& v, p2) := fun p2 => splT d (i + 1) _ p2 (Nat.lt_of_le_of_lt Nat.and_le_left (by omega))
      refine Or.inr ?_
      rw [fX10_splits_68, if_neg c]
      repeat (split <;> try exact h2 _)
def fX10_splits_7 (told : Int32 → Int32) (s : Int32 → Int32) (alive : Int32) (sz : Nat) : Nat → ((Int32 → Int32) × (Int32 → Int32)) → ((Int32 → Int32) × (Int32 → Int32))
  | i, (alone, parts) => (if ((nI i) &&& (alive ^^^ (-1))) = 0 then (if (rX10_sails told s (nI i) sz) = true then (if (nI i) = 0 then ((gup alone (nI i) (rX10_coinsOf told s (nI i) sz)), ((gWh (fX10_splits_68 (gup alone (nI i) (rX10_coinsOf told s (nI i) sz)) i) (i + 1) 0 (i, (gup parts (nI i) 0))).2)) else ((gup alone (nI i) (rX10_coinsOf told s (nI i) sz)), ((gWh (fX10_splits_68 (gup alone (nI i) (rX10_coinsOf told s (nI i) sz)) i) (i + 1) 0 (i, (gup parts (nI i) (-1000000)))).2))) else (if (nI i) = 0 then ((gup alone (nI i) (-1)), ((gWh (fX10_splits_68 (gup alone (nI i) (-1)) i) (i + 1) 0 (i, (gup parts (nI i) 0))).2)) else ((gup alone (nI i) (-1)), ((gWh (fX10_splits_68 (gup alone (nI i) (-1)) i) (i + 1) 0 (i, (gup parts (nI i) (-1000000)))).2)))) else (if (nI i) = 0 then ((gup alone (nI i) (-1)), ((gWh (fX10_splits_68 (gup alone (nI i) (-1)) i) (i + 1) 0 (i, (gup parts (nI i) 0))).2)) else ((gup alone (nI i) (-1)), ((gWh (fX10_splits_68 (gup alone (nI i) (-1)) i) (i + 1) 0 (i, (gup parts (nI i) (-1000000)))).2))))
set_option maxRecDepth 100000 in
set_option maxHeartbeats 4000000 in
theorem LX10_splits_7 {w : gW} {al : Bool} {typed known kept noted at_ : Int32} {text told draft s past images notes held : Int32 → Int32} {n : Nat} {P : gP} {sz tt : Nat} {alive : Int32} (hsz : told 0 = nI sz) (hs : sz ≤ 9) (h2 : (1 : Int32) <<< ((told 0) &&& 31) = nI tt) (h2b : tt ≤ 512)  : ∀ (d i : Nat) (alone : Int32 → Int32) (parts : Int32 → Int32), i + d = tt → G w gT0 al n mX10_splits 0 0 P 0 0 (hM text typed told draft s past known images kept notes noted at_ ((gLp (fX10_splits_7 told s alive sz) d i (alone, parts)).1) ((gLp (fX10_splits_7 told s alive sz) d i (alone, parts)).2) held) 162 [.ref 0, .int alive, .int (nI tt), gF, gF, gF] [] → G w gT0 al n mX10_splits 0 0 P 0 0 (hM text typed told draft s past known images kept notes noted at_ alone parts held) 7 [.ref 0, .int alive, .int (nI i), gF, gF, gF] []
  | 0, i, alone, parts, hi, k => by
    have hN : i = tt := by omega
    rw [hN]
    rw [hN] at k
    refine g_iload_n dX10_splits_7 rfl 8 rfl rfl ?_
    refine g_iconst 1 dX10_splits_8 9 rfl (by decide) ?_
    refine g_aload_n dX10_splits_9 rfl 10 rfl rfl ?_
    refine g_get (v := .ref 2) dX10_splits_10 13 rfl lX10_13 rfl rfl ?_
    refine g_iconst 0 dX10_splits_13 14 rfl (by decide) ?_
    refine g_iaload (N := 40) dX10_splits_14 15 rfl rfl (vp_in_iff.mpr (by decide)) ?_
    refine g_ishl dX10_splits_15 16 rfl ?_
    refine g_icmp_ge dX10_splits_16 162 rfl 19 rfl (fun _ => ?_) (fun c => absurd (by rw [h2]; exact nI_le (Nat.le_refl _) (by omega)) c)
    exact k
  | d + 1, i, alone, parts, hi, k => by
    refine g_iload_n dX10_splits_7 rfl 8 rfl rfl ?_
    refine g_iconst 1 dX10_splits_8 9 rfl (by decide) ?_
    refine g_aload_n dX10_splits_9 rfl 10 rfl rfl ?_
    refine g_get (v := .ref 2) dX10_splits_10 13 rfl lX10_13 rfl rfl ?_
    refine g_iconst 0 dX10_splits_13 14 rfl (by decide) ?_
    refine g_iaload (N := 40) dX10_splits_14 15 rfl rfl (vp_in_iff.mpr (by decide)) ?_
    refine g_ishl dX10_splits_15 16 rfl ?_
    refine g_icmp_ge dX10_splits_16 162 rfl 19 rfl (fun c => absurd c (by rw [h2]; exact nI_ge (by omega) (by omega))) (fun _ => ?_)
    refine g_aload_n dX10_splits_19 rfl 20 rfl rfl ?_
    refine g_get (v := .ref 8) dX10_splits_20 23 rfl lX10_31 rfl rfl ?_
    refine g_iload_n dX10_splits_23 rfl 24 rfl rfl ?_
    refine g_iload_n dX10_splits_24 rfl 25 rfl rfl ?_
    refine g_iload_n dX10_splits_25 rfl 26 rfl rfl ?_
    refine g_iconst (-1) dX10_splits_26 27 rfl (by decide) ?_
    refine g_ixor dX10_splits_27 28 rfl ?_
    refine g_iand dX10_splits_28 29 rfl ?_
    refine g_if_ne dX10_splits_29 48 rfl 32 rfl (fun c1 => ?_) (fun c1 => ?_)
    · refine g_iconst (-1) dX10_splits_48 49 rfl (by decide) ?_
      refine g_iastore (N := 512) dX10_splits_49 50 rfl rfl (by decide) (vp_in_nI (by omega) (by decide)) (h' := (hM text typed told draft s past known images kept notes noted at_ (gup alone (nI i) (-1)) parts held)) rfl ?_
      refine g_aload_n dX10_splits_50 rfl 51 rfl rfl ?_
      refine g_get (v := .ref 9) dX10_splits_51 54 rfl lX10_34 rfl rfl ?_
      refine g_iload_n dX10_splits_54 rfl 55 rfl rfl ?_
      refine g_iload_n dX10_splits_55 rfl 56 rfl rfl ?_
      refine g_if_ne dX10_splits_56 63 rfl 59 rfl (fun c5 => ?_) (fun c5 => ?_)
      · refine g_ldc (-1000000) dX10_splits_63 65 rfl vX10_126 ?_
        refine g_iastore (N := 512) dX10_splits_65 66 rfl rfl (by decide) (vp_in_nI (by omega) (by decide)) (h' := (hM text typed told draft s past known images kept notes noted at_ (gup alone (nI i) (-1)) (gup parts (nI i) (-1000000)) held)) rfl ?_
        refine g_iload_n dX10_splits_66 rfl 67 rfl rfl ?_
        refine g_istore3 dX10_splits_67 68 rfl (by decide) rfl ?_
        refine LX10_splits_68 hsz hs (by omega) (i + 1) 0 i (gup parts (nI i) (-1000000)) (splT _ _ _ _ (Nat.lt_succ_self _)) (Nat.le_refl _) ?_
        refine g_iinc2 dX10_splits_156 159 rfl 1 (by decide) (nI (i + 1)) (nI_add _ 1) (by decide) rfl ?_
        refine g_goto dX10_splits_159 7 rfl ?_
        refine g_fgt (L' := [.ref 0, .int alive, .int (nI (i + 1)), gF, gF, gF]) ⟨Or.inl rfl, Or.inl rfl, Or.inl rfl, Or.inr rfl, Or.inl rfl, Or.inl rfl, trivial⟩ ?_
        have e : (fX10_splits_7 told s alive sz) i (alone, parts) = ((gup alone (nI i) (-1)), ((gWh (fX10_splits_68 (gup alone (nI i) (-1)) i) (i + 1) 0 (i, (gup parts (nI i) (-1000000)))).2)) := by rw [fX10_splits_7, if_neg c1, if_neg c5]
        refine LX10_splits_7 hsz hs h2 h2b d (i + 1) (gup alone (nI i) (-1)) ((gWh (fX10_splits_68 (gup alone (nI i) (-1)) i) (i + 1) 0 (i, (gup parts (nI i) (-1000000)))).2) (by omega) ?_
        rw [← e]
        exact k
      · refine g_iconst 0 dX10_splits_59 60 rfl (by decide) ?_
        refine g_goto dX10_splits_60 65 rfl ?_
        refine g_iastore (N := 512) dX10_splits_65 66 rfl rfl (by decide) (vp_in_nI (by omega) (by decide)) (h' := (hM text typed told draft s past known images kept notes noted at_ (gup alone (nI i) (-1)) (gup parts (nI i) 0) held)) rfl ?_
        refine g_iload_n dX10_splits_66 rfl 67 rfl rfl ?_
        refine g_istore3 dX10_splits_67 68 rfl (by decide) rfl ?_
        refine LX10_splits_68 hsz hs (by omega) (i + 1) 0 i (gup parts (nI i) 0) (splT _ _ _ _ (Nat.lt_succ_self _)) (Nat.le_refl _) ?_
        refine g_iinc2 dX10_splits_156 159 rfl 1 (by decide) (nI (i + 1)) (nI_add _ 1) (by decide) rfl ?_
        refine g_goto dX10_splits_159 7 rfl ?_
        refine g_fgt (L' := [.ref 0, .int alive, .int (nI (i + 1)), gF, gF, gF]) ⟨Or.inl rfl, Or.inl rfl, Or.inl rfl, Or.inr rfl, Or.inl rfl, Or.inl rfl, trivial⟩ ?_
        have e : (fX10_splits_7 told s alive sz) i (alone, parts) = ((gup alone (nI i) (-1)), ((gWh (fX10_splits_68 (gup alone (nI i) (-1)) i) (i + 1) 0 (i, (gup parts (nI i) 0))).2)) := by rw [fX10_splits_7, if_neg c1, if_pos c5]
        refine LX10_splits_7 hsz hs h2 h2b d (i + 1) (gup alone (nI i) (-1)) ((gWh (fX10_splits_68 (gup alone (nI i) (-1)) i) (i + 1) 0 (i, (gup parts (nI i) 0))).2) (by omega) ?_
        rw [← e]
        exact k
    · refine g_aload_n dX10_splits_32 rfl 33 rfl rfl ?_
      refine g_iload_n dX10_splits_33 rfl 34 rfl rfl ?_
      refine g_cVv (as := [.int (nI i)]) (st := [.int (nI i), .ref 8]) dX10_splits_34 37 rfl kX10_104 ⟨Nat.le_of_ble_eq_true rfl, Nat.le_of_ble_eq_true rfl⟩ (MX10_sails (nI i) hsz hs) rfl rfl rfl rfl (Nat.le_of_ble_eq_true rfl) (Nat.le_refl _) (Nat.le_refl _) ?_
      refine g_if_eq dX10_splits_37 48 rfl 40 rfl (fun c2 => ?_) (fun c2 => ?_)
      · replace c2 := gB_f c2
        refine g_iconst (-1) dX10_splits_48 49 rfl (by decide) ?_
        refine g_iastore (N := 512) dX10_splits_49 50 rfl rfl (by decide) (vp_in_nI (by omega) (by decide)) (h' := (hM text typed told draft s past known images kept notes noted at_ (gup alone (nI i) (-1)) parts held)) rfl ?_
        refine g_aload_n dX10_splits_50 rfl 51 rfl rfl ?_
        refine g_get (v := .ref 9) dX10_splits_51 54 rfl lX10_34 rfl rfl ?_
        refine g_iload_n dX10_splits_54 rfl 55 rfl rfl ?_
        refine g_iload_n dX10_splits_55 rfl 56 rfl rfl ?_
        refine g_if_ne dX10_splits_56 63 rfl 59 rfl (fun c3 => ?_) (fun c3 => ?_)
        · refine g_ldc (-1000000) dX10_splits_63 65 rfl vX10_126 ?_
          refine g_iastore (N := 512) dX10_splits_65 66 rfl rfl (by decide) (vp_in_nI (by omega) (by decide)) (h' := (hM text typed told draft s past known images kept notes noted at_ (gup alone (nI i) (-1)) (gup parts (nI i) (-1000000)) held)) rfl ?_
          refine g_iload_n dX10_splits_66 rfl 67 rfl rfl ?_
          refine g_istore3 dX10_splits_67 68 rfl (by decide) rfl ?_
          refine LX10_splits_68 hsz hs (by omega) (i + 1) 0 i (gup parts (nI i) (-1000000)) (splT _ _ _ _ (Nat.lt_succ_self _)) (Nat.le_refl _) ?_
          refine g_iinc2 dX10_splits_156 159 rfl 1 (by decide) (nI (i + 1)) (nI_add _ 1) (by decide) rfl ?_
          refine g_goto dX10_splits_159 7 rfl ?_
          refine g_fgt (L' := [.ref 0, .int alive, .int (nI (i + 1)), gF, gF, gF]) ⟨Or.inl rfl, Or.inl rfl, Or.inl rfl, Or.inr rfl, Or.inl rfl, Or.inl rfl, trivial⟩ ?_
          have e : (fX10_splits_7 told s alive sz) i (alone, parts) = ((gup alone (nI i) (-1)), ((gWh (fX10_splits_68 (gup alone (nI i) (-1)) i) (i + 1) 0 (i, (gup parts (nI i) (-1000000)))).2)) := by rw [fX10_splits_7, if_pos c1, if_neg c2, if_neg c3]
          refine LX10_splits_7 hsz hs h2 h2b d (i + 1) (gup alone (nI i) (-1)) ((gWh (fX10_splits_68 (gup alone (nI i) (-1)) i) (i + 1) 0 (i, (gup parts (nI i) (-1000000)))).2) (by omega) ?_
          rw [← e]
          exact k
        · refine g_iconst 0 dX10_splits_59 60 rfl (by decide) ?_
          refine g_goto dX10_splits_60 65 rfl ?_
          refine g_iastore (N := 512) dX10_splits_65 66 rfl rfl (by decide) (vp_in_nI (by omega) (by decide)) (h' := (hM text typed told draft s past known images kept notes noted at_ (gup alone (nI i) (-1)) (gup parts (nI i) 0) held)) rfl ?_
          refine g_iload_n dX10_splits_66 rfl 67 rfl rfl ?_
          refine g_istore3 dX10_splits_67 68 rfl (by decide) rfl ?_
          refine LX10_splits_68 hsz hs (by omega) (i + 1) 0 i (gup parts (nI i) 0) (splT _ _ _ _ (Nat.lt_succ_self _)) (Nat.le_refl _) ?_
          refine g_iinc2 dX10_splits_156 159 rfl 1 (by decide) (nI (i + 1)) (nI_add _ 1) (by decide) rfl ?_
          refine g_goto dX10_splits_159 7 rfl ?_
          refine g_fgt (L' := [.ref 0, .int alive, .int (nI (i + 1)), gF, gF, gF]) ⟨Or.inl rfl, Or.inl rfl, Or.inl rfl, Or.inr rfl, Or.inl rfl, Or.inl rfl, trivial⟩ ?_
          have e : (fX10_splits_7 told s alive sz) i (alone, parts) = ((gup alone (nI i) (-1)), ((gWh (fX10_splits_68 (gup alone (nI i) (-1)) i) (i + 1) 0 (i, (gup parts (nI i) 0))).2)) := by rw [fX10_splits_7, if_pos c1, if_neg c2, if_pos c3]
          refine LX10_splits_7 hsz hs h2 h2b d (i + 1) (gup alone (nI i) (-1)) ((gWh (fX10_splits_68 (gup alone (nI i) (-1)) i) (i + 1) 0 (i, (gup parts (nI i) 0))).2) (by omega) ?_
          rw [← e]
          exact k
      · replace c2 := gB_t c2
        refine g_aload_n dX10_splits_40 rfl 41 rfl rfl ?_
        refine g_iload_n dX10_splits_41 rfl 42 rfl rfl ?_
        refine g_cVv (as := [.int (nI i)]) (st := [.int (nI i), .ref 8]) dX10_splits_42 45 rfl kX10_107 ⟨Nat.le_of_ble_eq_true rfl, Nat.le_of_ble_eq_true rfl⟩ (MX10_coinsOf (nI i) hsz hs) rfl rfl rfl rfl (Nat.le_of_ble_eq_true rfl) (Nat.le_refl _) (Nat.le_refl _) ?_
        refine g_goto dX10_splits_45 49 rfl ?_
        refine g_iastore (N := 512) dX10_splits_49 50 rfl rfl (by decide) (vp_in_nI (by omega) (by decide)) (h' := (hM text typed told draft s past known images kept notes noted at_ (gup alone (nI i) (rX10_coinsOf told s (nI i) sz)) parts held)) rfl ?_
        refine g_aload_n dX10_splits_50 rfl 51 rfl rfl ?_
        refine g_get (v := .ref 9) dX10_splits_51 54 rfl lX10_34 rfl rfl ?_
        refine g_iload_n dX10_splits_54 rfl 55 rfl rfl ?_
        refine g_iload_n dX10_splits_55 rfl 56 rfl rfl ?_
        refine g_if_ne dX10_splits_56 63 rfl 59 rfl (fun c4 => ?_) (fun c4 => ?_)
        · refine g_ldc (-1000000) dX10_splits_63 65 rfl vX10_126 ?_
          refine g_iastore (N := 512) dX10_splits_65 66 rfl rfl (by decide) (vp_in_nI (by omega) (by decide)) (h' := (hM text typed told draft s past known images kept notes noted at_ (gup alone (nI i) (rX10_coinsOf told s (nI i) sz)) (gup parts (nI i) (-1000000)) held)) rfl ?_
          refine g_iload_n dX10_splits_66 rfl 67 rfl rfl ?_
          refine g_istore3 dX10_splits_67 68 rfl (by decide) rfl ?_
          refine LX10_splits_68 hsz hs (by omega) (i + 1) 0 i (gup parts (nI i) (-1000000)) (splT _ _ _ _ (Nat.lt_succ_self _)) (Nat.le_refl _) ?_
          refine g_iinc2 dX10_splits_156 159 rfl 1 (by decide) (nI (i + 1)) (nI_add _ 1) (by decide) rfl ?_
          refine g_goto dX10_splits_159 7 rfl ?_
          refine g_fgt (L' := [.ref 0, .int alive, .int (nI (i + 1)), gF, gF, gF]) ⟨Or.inl rfl, Or.inl rfl, Or.inl rfl, Or.inr rfl, Or.inl rfl, Or.inl rfl, trivial⟩ ?_
          have e : (fX10_splits_7 told s alive sz) i (alone, parts) = ((gup alone (nI i) (rX10_coinsOf told s (nI i) sz)), ((gWh (fX10_splits_68 (gup alone (nI i) (rX10_coinsOf told s (nI i) sz)) i) (i + 1) 0 (i, (gup parts (nI i) (-1000000)))).2)) := by rw [fX10_splits_7, if_pos c1, if_pos c2, if_neg c4]
          refine LX10_splits_7 hsz hs h2 h2b d (i + 1) (gup alone (nI i) (rX10_coinsOf told s (nI i) sz)) ((gWh (fX10_splits_68 (gup alone (nI i) (rX10_coinsOf told s (nI i) sz)) i) (i + 1) 0 (i, (gup parts (nI i) (-1000000)))).2) (by omega) ?_
          rw [← e]
          exact k
        · refine g_iconst 0 dX10_splits_59 60 rfl (by decide) ?_
          refine g_goto dX10_splits_60 65 rfl ?_
          refine g_iastore (N := 512) dX10_splits_65 66 rfl rfl (by decide) (vp_in_nI (by omega) (by decide)) (h' := (hM text typed told draft s past known images kept notes noted at_ (gup alone (nI i) (rX10_coinsOf told s (nI i) sz)) (gup parts (nI i) 0) held)) rfl ?_
          refine g_iload_n dX10_splits_66 rfl 67 rfl rfl ?_
          refine g_istore3 dX10_splits_67 68 rfl (by decide) rfl ?_
          refine LX10_splits_68 hsz hs (by omega) (i + 1) 0 i (gup parts (nI i) 0) (splT _ _ _ _ (Nat.lt_succ_self _)) (Nat.le_refl _) ?_
          refine g_iinc2 dX10_splits_156 159 rfl 1 (by decide) (nI (i + 1)) (nI_add _ 1) (by decide) rfl ?_
          refine g_goto dX10_splits_159 7 rfl ?_
          refine g_fgt (L' := [.ref 0, .int alive, .int (nI (i + 1)), gF, gF, gF]) ⟨Or.inl rfl, Or.inl rfl, Or.inl rfl, Or.inr rfl, Or.inl rfl, Or.inl rfl, trivial⟩ ?_
          have e : (fX10_splits_7 told s alive sz) i (alone, parts) = ((gup alone (nI i) (rX10_coinsOf told s (nI i) sz)), ((gWh (fX10_splits_68 (gup alone (nI i) (rX10_coinsOf told s (nI i) sz)) i) (i + 1) 0 (i, (gup parts (nI i) 0))).2)) := by rw [fX10_splits_7, if_pos c1, if_pos c2, if_pos c4]
          refine LX10_splits_7 hsz hs h2 h2b d (i + 1) (gup alone (nI i) (rX10_coinsOf told s (nI i) sz)) ((gWh (fX10_splits_68 (gup alone (nI i) (rX10_coinsOf told s (nI i) sz)) i) (i + 1) 0 (i, (gup parts (nI i) 0))).2) (by omega) ?_
          rw [← e]
          exact k
def rX10_splits (told : Int32 → Int32) (s : Int32 → Int32) (alone : Int32 → Int32) (parts : Int32 → Int32) (sz : Nat) : (Int32 → Int32) × (Int32 → Int32) := (((gLp (fX10_splits_7 told s (rX10_alive told s sz) sz) (2 ^ sz) 0 (alone, parts)).1), ((gLp (fX10_splits_7 told s (rX10_alive told s sz) sz) (2 ^ sz) 0 (alone, parts)).2))
set_option maxRecDepth 100000 in
set_option maxHeartbeats 4000000 in
theorem MX10_splits {w : gW} {al : Bool} {typed known kept noted at_ : Int32} {text told draft s past images notes alone parts held : Int32 → Int32} {sz : Nat} (hsz : told 0 = nI sz) (hs : sz ≤ 9)  : M w gT0 al mX10_splits 0 0 (hM text typed told draft s past known images kept notes noted at_ alone parts held) [.ref 0] (gEq (hM text typed told draft s past known images kept notes noted at_ ((rX10_splits told s alone parts sz).1) ((rX10_splits told s alone parts sz).2) held) none) := by
  refine M.of (L0 := [.ref 0, gF, gF, gF, gF, gF]) (by decide +kernel) (Nat.le_of_ble_eq_true rfl) rfl ?_
  refine g_aload_n dX10_splits_0 rfl 1 rfl rfl ?_
  refine g_cVv (as := []) (st := []) dX10_splits_1 4 rfl kX10_98 ⟨Nat.le_of_ble_eq_true rfl, Nat.le_of_ble_eq_true rfl⟩ (MX10_alive hsz hs) rfl rfl rfl rfl (Nat.le_of_ble_eq_true rfl) (Nat.le_refl _) (Nat.le_refl _) ?_
  refine g_istore1 dX10_splits_4 5 rfl (by decide) rfl ?_
  refine g_iconst 0 dX10_splits_5 6 rfl (by decide) ?_
  refine g_istore2 dX10_splits_6 7 rfl (by decide) rfl ?_
  refine LX10_splits_7 hsz hs (shl_sz hsz hs) (pw9 hs) (2 ^ sz) 0 alone parts (Nat.zero_add _) ?_
  refine g_return dX10_splits_162 rfl (Nat.le_refl _) (Nat.le_refl _) ?_
  have e : (rX10_splits told s alone parts sz) = (((gLp (fX10_splits_7 told s (rX10_alive told s sz) sz) (2 ^ sz) 0 (alone, parts)).1), ((gLp (fX10_splits_7 told s (rX10_alive told s sz) sz) (2 ^ sz) 0 (alone, parts)).2)) := by rw [rX10_splits]
  rw [e]
  exact ⟨rfl, rfl⟩
def fX10_sailings_25 (told : Int32 → Int32) (s : Int32 → Int32) (parts : Int32 → Int32) (sz : Nat) : Nat → (Nat × Int32) → (Nat × Int32)
  | i, (u0, u1) => (if (parts (nI i)) ≤ (parts (nI u0)) then (if (parts (nI i)) = (parts (nI u0)) then (if u1 ≤ ((rX10_alive told s sz) &&& ((nI i) ^^^ (-1))) then (u0, u1) else (u0, ((rX10_alive told s sz) &&& ((nI i) ^^^ (-1))))) else (u0, u1)) else (i, ((rX10_alive told s sz) &&& ((nI i) ^^^ (-1)))))
set_option maxRecDepth 100000 in
set_option maxHeartbeats 4000000 in
theorem LX10_sailings_25 {w : gW} {al : Bool} {typed known kept noted at_ : Int32} {text told draft s past images notes alone parts held : Int32 → Int32} {n : Nat} {P : gP} {sz tt : Nat} {what : Int32} (hsz : told 0 = nI sz) (hs : sz ≤ 9) (h2 : (1 : Int32) <<< ((told 0) &&& 31) = nI tt) (h2b : tt ≤ 512)  : ∀ (d i : Nat) (u0 : Nat) (u1 : Int32), i + d = tt → u0 < 512 → G w gT0 al n mX10_sailings 0 0 P 0 0 (hM text typed told draft s past known images kept notes noted at_ alone parts held) 124 [.ref 0, .int what, .int (nI ((gLp (fX10_sailings_25 told s parts sz) d i (u0, u1)).1)), .int ((gLp (fX10_sailings_25 told s parts sz) d i (u0, u1)).2), .int (nI tt), gF, gF] [] → G w gT0 al n mX10_sailings 0 0 P 0 0 (hM text typed told draft s past known images kept notes noted at_ alone parts held) 25 [.ref 0, .int what, .int (nI u0), .int u1, .int (nI i), gF, gF] []
  | 0, i, u0, u1, hi, hinv, k => by
    have hN : i = tt := by omega
    rw [hN]
    rw [hN] at k
    refine g_iload dX10_sailings_25 27 rfl rfl ?_
    refine g_iconst 1 dX10_sailings_27 28 rfl (by decide) ?_
    refine g_aload_n dX10_sailings_28 rfl 29 rfl rfl ?_
    refine g_get (v := .ref 2) dX10_sailings_29 32 rfl lX10_13 rfl rfl ?_
    refine g_iconst 0 dX10_sailings_32 33 rfl (by decide) ?_
    refine g_iaload (N := 40) dX10_sailings_33 34 rfl rfl (vp_in_iff.mpr (by decide)) ?_
    refine g_ishl dX10_sailings_34 35 rfl ?_
    refine g_icmp_ge dX10_sailings_35 124 rfl 38 rfl (fun _ => ?_) (fun c => absurd (by rw [h2]; exact nI_le (Nat.le_refl _) (by omega)) c)
    exact k
  | d + 1, i, u0, u1, hi, hinv, k => by
    refine g_iload dX10_sailings_25 27 rfl rfl ?_
    refine g_iconst 1 dX10_sailings_27 28 rfl (by decide) ?_
    refine g_aload_n dX10_sailings_28 rfl 29 rfl rfl ?_
    refine g_get (v := .ref 2) dX10_sailings_29 32 rfl lX10_13 rfl rfl ?_
    refine g_iconst 0 dX10_sailings_32 33 rfl (by decide) ?_
    refine g_iaload (N := 40) dX10_sailings_33 34 rfl rfl (vp_in_iff.mpr (by decide)) ?_
    refine g_ishl dX10_sailings_34 35 rfl ?_
    refine g_icmp_ge dX10_sailings_35 124 rfl 38 rfl (fun c => absurd c (by rw [h2]; exact nI_ge (by omega) (by omega))) (fun _ => ?_)
    refine g_aload_n dX10_sailings_38 rfl 39 rfl rfl ?_
    refine g_get (v := .ref 9) dX10_sailings_39 42 rfl lX10_34 rfl rfl ?_
    refine g_iload dX10_sailings_42 44 rfl rfl ?_
    refine g_iaload (N := 512) dX10_sailings_44 45 rfl rfl (vp_in_nI (by omega) (by decide)) ?_
    refine g_aload_n dX10_sailings_45 rfl 46 rfl rfl ?_
    refine g_get (v := .ref 9) dX10_sailings_46 49 rfl lX10_34 rfl rfl ?_
    refine g_iload_n dX10_sailings_49 rfl 50 rfl rfl ?_
    refine g_iaload (N := 512) dX10_sailings_50 51 rfl rfl (vp_in_nI (by omega) (by decide)) ?_
    refine g_icmp_le dX10_sailings_51 58 rfl 54 rfl (fun c1 => ?_) (fun c1 => ?_)
    · refine g_iconst 0 dX10_sailings_58 59 rfl (by decide) ?_
      refine g_istore5 dX10_sailings_59 61 rfl (by decide) rfl ?_
      refine g_aload_n dX10_sailings_61 rfl 62 rfl rfl ?_
      refine g_cVv (as := []) (st := []) dX10_sailings_62 65 rfl kX10_98 ⟨Nat.le_of_ble_eq_true rfl, Nat.le_of_ble_eq_true rfl⟩ (MX10_alive hsz hs) rfl rfl rfl rfl (Nat.le_of_ble_eq_true rfl) (Nat.le_refl _) (Nat.le_refl _) ?_
      refine g_iload dX10_sailings_65 67 rfl rfl ?_
      refine g_iconst (-1) dX10_sailings_67 68 rfl (by decide) ?_
      refine g_ixor dX10_sailings_68 69 rfl ?_
      refine g_iand dX10_sailings_69 70 rfl ?_
      refine g_istore6 dX10_sailings_70 72 rfl (by decide) rfl ?_
      refine g_iload dX10_sailings_72 74 rfl rfl ?_
      refine g_if_ne dX10_sailings_74 99 rfl 77 rfl (fun c => absurd (by decide) c) (fun _ => ?_)
      refine g_aload_n dX10_sailings_77 rfl 78 rfl rfl ?_
      refine g_get (v := .ref 9) dX10_sailings_78 81 rfl lX10_34 rfl rfl ?_
      refine g_iload dX10_sailings_81 83 rfl rfl ?_
      refine g_iaload (N := 512) dX10_sailings_83 84 rfl rfl (vp_in_nI (by omega) (by decide)) ?_
      refine g_aload_n dX10_sailings_84 rfl 85 rfl rfl ?_
      refine g_get (v := .ref 9) dX10_sailings_85 88 rfl lX10_34 rfl rfl ?_
      refine g_iload_n dX10_sailings_88 rfl 89 rfl rfl ?_
      refine g_iaload (N := 512) dX10_sailings_89 90 rfl rfl (vp_in_nI (by omega) (by decide)) ?_
      refine g_icmp_ne dX10_sailings_90 104 rfl 93 rfl (fun c2 => ?_) (fun c2 => ?_)
      · refine g_iload_n dX10_sailings_104 rfl 105 rfl rfl ?_
        refine g_istore3 dX10_sailings_105 106 rfl (by decide) rfl ?_
        refine g_iload dX10_sailings_106 108 rfl rfl ?_
        refine g_if_eq dX10_sailings_108 116 rfl 111 rfl (fun _ => ?_) (fun c => absurd (by decide) c)
        refine g_iload_n dX10_sailings_116 rfl 117 rfl rfl ?_
        refine g_istore2 dX10_sailings_117 118 rfl (by decide) rfl ?_
        refine g_iinc4 dX10_sailings_118 121 rfl 1 (by decide) (nI (i + 1)) (nI_add _ 1) (by decide) rfl ?_
        refine g_goto dX10_sailings_121 25 rfl ?_
        refine g_fgt (L' := [.ref 0, .int what, .int (nI u0), .int u1, .int (nI (i + 1)), gF, gF]) ⟨Or.inl rfl, Or.inl rfl, Or.inl rfl, Or.inl rfl, Or.inl rfl, Or.inr rfl, Or.inr rfl, trivial⟩ ?_
        have e : (fX10_sailings_25 told s parts sz) i (u0, u1) = (u0, u1) := by rw [fX10_sailings_25, if_pos c1, if_neg c2]
        refine LX10_sailings_25 hsz hs h2 h2b d (i + 1) u0 u1 (by omega) (by omega) ?_
        rw [← e]
        exact k
      · refine g_iload dX10_sailings_93 95 rfl rfl ?_
        refine g_iload_n dX10_sailings_95 rfl 96 rfl rfl ?_
        refine g_icmp_ge dX10_sailings_96 104 rfl 99 rfl (fun c3 => ?_) (fun c3 => ?_)
        · refine g_iload_n dX10_sailings_104 rfl 105 rfl rfl ?_
          refine g_istore3 dX10_sailings_105 106 rfl (by decide) rfl ?_
          refine g_iload dX10_sailings_106 108 rfl rfl ?_
          refine g_if_eq dX10_sailings_108 116 rfl 111 rfl (fun _ => ?_) (fun c => absurd (by decide) c)
          refine g_iload_n dX10_sailings_116 rfl 117 rfl rfl ?_
          refine g_istore2 dX10_sailings_117 118 rfl (by decide) rfl ?_
          refine g_iinc4 dX10_sailings_118 121 rfl 1 (by decide) (nI (i + 1)) (nI_add _ 1) (by decide) rfl ?_
          refine g_goto dX10_sailings_121 25 rfl ?_
          refine g_fgt (L' := [.ref 0, .int what, .int (nI u0), .int u1, .int (nI (i + 1)), gF, gF]) ⟨Or.inl rfl, Or.inl rfl, Or.inl rfl, Or.inl rfl, Or.inl rfl, Or.inr rfl, Or.inr rfl, trivial⟩ ?_
          have e : (fX10_sailings_25 told s parts sz) i (u0, u1) = (u0, u1) := by rw [fX10_sailings_25, if_pos c1, if_pos c2, if_pos c3]
          refine LX10_sailings_25 hsz hs h2 h2b d (i + 1) u0 u1 (by omega) (by omega) ?_
          rw [← e]
          exact k
        · refine g_iload dX10_sailings_99 101 rfl rfl ?_
          refine g_goto dX10_sailings_101 105 rfl ?_
          refine g_istore3 dX10_sailings_105 106 rfl (by decide) rfl ?_
          refine g_iload dX10_sailings_106 108 rfl rfl ?_
          refine g_if_eq dX10_sailings_108 116 rfl 111 rfl (fun _ => ?_) (fun c => absurd (by decide) c)
          refine g_iload_n dX10_sailings_116 rfl 117 rfl rfl ?_
          refine g_istore2 dX10_sailings_117 118 rfl (by decide) rfl ?_
          refine g_iinc4 dX10_sailings_118 121 rfl 1 (by decide) (nI (i + 1)) (nI_add _ 1) (by decide) rfl ?_
          refine g_goto dX10_sailings_121 25 rfl ?_
          refine g_fgt (L' := [.ref 0, .int what, .int (nI u0), .int ((rX10_alive told s sz) &&& ((nI i) ^^^ (-1))), .int (nI (i + 1)), gF, gF]) ⟨Or.inl rfl, Or.inl rfl, Or.inl rfl, Or.inl rfl, Or.inl rfl, Or.inr rfl, Or.inr rfl, trivial⟩ ?_
          have e : (fX10_sailings_25 told s parts sz) i (u0, u1) = (u0, ((rX10_alive told s sz) &&& ((nI i) ^^^ (-1)))) := by rw [fX10_sailings_25, if_pos c1, if_pos c2, if_neg c3]
          refine LX10_sailings_25 hsz hs h2 h2b d (i + 1) u0 ((rX10_alive told s sz) &&& ((nI i) ^^^ (-1))) (by omega) (by omega) ?_
          rw [← e]
          exact k
    · refine g_iconst 1 dX10_sailings_54 55 rfl (by decide) ?_
      refine g_goto dX10_sailings_55 59 rfl ?_
      refine g_istore5 dX10_sailings_59 61 rfl (by decide) rfl ?_
      refine g_aload_n dX10_sailings_61 rfl 62 rfl rfl ?_
      refine g_cVv (as := []) (st := []) dX10_sailings_62 65 rfl kX10_98 ⟨Nat.le_of_ble_eq_true rfl, Nat.le_of_ble_eq_true rfl⟩ (MX10_alive hsz hs) rfl rfl rfl rfl (Nat.le_of_ble_eq_true rfl) (Nat.le_refl _) (Nat.le_refl _) ?_
      refine g_iload dX10_sailings_65 67 rfl rfl ?_
      refine g_iconst (-1) dX10_sailings_67 68 rfl (by decide) ?_
      refine g_ixor dX10_sailings_68 69 rfl ?_
      refine g_iand dX10_sailings_69 70 rfl ?_
      refine g_istore6 dX10_sailings_70 72 rfl (by decide) rfl ?_
      refine g_iload dX10_sailings_72 74 rfl rfl ?_
      refine g_if_ne dX10_sailings_74 99 rfl 77 rfl (fun _ => ?_) (fun c => absurd c (by decide))
      refine g_iload dX10_sailings_99 101 rfl rfl ?_
      refine g_goto dX10_sailings_101 105 rfl ?_
      refine g_istore3 dX10_sailings_105 106 rfl (by decide) rfl ?_
      refine g_iload dX10_sailings_106 108 rfl rfl ?_
      refine g_if_eq dX10_sailings_108 116 rfl 111 rfl (fun c => absurd c (by decide)) (fun _ => ?_)
      refine g_iload dX10_sailings_111 113 rfl rfl ?_
      refine g_goto dX10_sailings_113 117 rfl ?_
      refine g_istore2 dX10_sailings_117 118 rfl (by decide) rfl ?_
      refine g_iinc4 dX10_sailings_118 121 rfl 1 (by decide) (nI (i + 1)) (nI_add _ 1) (by decide) rfl ?_
      refine g_goto dX10_sailings_121 25 rfl ?_
      refine g_fgt (L' := [.ref 0, .int what, .int (nI i), .int ((rX10_alive told s sz) &&& ((nI i) ^^^ (-1))), .int (nI (i + 1)), gF, gF]) ⟨Or.inl rfl, Or.inl rfl, Or.inl rfl, Or.inl rfl, Or.inl rfl, Or.inr rfl, Or.inr rfl, trivial⟩ ?_
      have e : (fX10_sailings_25 told s parts sz) i (u0, u1) = (i, ((rX10_alive told s sz) &&& ((nI i) ^^^ (-1)))) := by rw [fX10_sailings_25, if_neg c1]
      refine LX10_sailings_25 hsz hs h2 h2b d (i + 1) i ((rX10_alive told s sz) &&& ((nI i) ^^^ (-1))) (by omega) (by omega) ?_
      rw [← e]
      exact k
theorem slU (told s parts : Int32 → Int32) (sz : Nat) : ∀ (d i : Nat) (a : Nat × Int32), i + d ≤ 512 → a.1 < 512 → (gLp (fX10_sailings_25 told s parts sz) d i a).1 < 512
  | 0, i, a, h, h1 => h1
  | d + 1, i, a, h, h1 => by
    obtain ⟨u0, u1⟩ := a
    refine slU told s parts sz d (i + 1) _ (by omega) ?_
    rw [fX10_sailings_25]
    have h3 : i < 512 := by omega
    have h4 : u0 < 512 := h1
    repeat (split <;> try (first | exact h3 | exact h4))
def rX10_sailings (told : Int32 → Int32) (s : Int32 → Int32) (alone : Int32 → Int32) (parts : Int32 → Int32) (what : Int32) (sz : Nat) : Int32 × (Int32 → Int32) × (Int32 → Int32) := (if (rX10_in what 0 2) = true then (if what = 0 then (((((((rX10_splits told s alone parts sz).2) (nI ((gLp (fX10_sailings_25 told s ((rX10_splits told s alone parts sz).2) sz) ((2 ^ sz) - 1) 1 (0, (rX10_alive told s sz))).1))) + 100000) - 1) / 100000), ((rX10_splits told s alone parts sz).1), ((rX10_splits told s alone parts sz).2)) else (if what = 1 then (((100000 * ((((((rX10_splits told s alone parts sz).2) (nI ((gLp (fX10_sailings_25 told s ((rX10_splits told s alone parts sz).2) sz) ((2 ^ sz) - 1) 1 (0, (rX10_alive told s sz))).1))) + 100000) - 1) / 100000)) - (((rX10_splits told s alone parts sz).2) (nI ((gLp (fX10_sailings_25 told s ((rX10_splits told s alone parts sz).2) sz) ((2 ^ sz) - 1) 1 (0, (rX10_alive told s sz))).1)))), ((rX10_splits told s alone parts sz).1), ((rX10_splits told s alone parts sz).2)) else (((gLp (fX10_sailings_25 told s ((rX10_splits told s alone parts sz).2) sz) ((2 ^ sz) - 1) 1 (0, (rX10_alive told s sz))).2), ((rX10_splits told s alone parts sz).1), ((rX10_splits told s alone parts sz).2)))) else ((-1), alone, parts))
set_option maxRecDepth 100000 in
set_option maxHeartbeats 4000000 in
theorem MX10_sailings {w : gW} {al : Bool} {typed known kept noted at_ : Int32} {text told draft s past images notes alone parts held : Int32 → Int32} {sz : Nat} (what : Int32) (hsz : told 0 = nI sz) (hs : sz ≤ 9)  : M w gT0 al mX10_sailings 0 0 (hM text typed told draft s past known images kept notes noted at_ alone parts held) [.ref 0, .int what] (gEq (hM text typed told draft s past known images kept notes noted at_ ((rX10_sailings told s alone parts what sz).2.1) ((rX10_sailings told s alone parts what sz).2.2) held) (some (.int ((rX10_sailings told s alone parts what sz).1)))) := by
  refine M.of (L0 := [.ref 0, .int what, gF, gF, gF, gF, gF]) (by decide +kernel) (Nat.le_of_ble_eq_true rfl) rfl ?_
  refine g_iload_n dX10_sailings_0 rfl 1 rfl rfl ?_
  refine g_iconst 0 dX10_sailings_1 2 rfl (by decide) ?_
  refine g_iconst 2 dX10_sailings_2 3 rfl (by decide) ?_
  refine g_cSv (as := [.int what, .int 0, .int 2]) (st := []) dX10_sailings_3 6 rfl kX10_50 ⟨Nat.le_of_ble_eq_true rfl, Nat.le_of_ble_eq_true rfl⟩ (MX10_in what 0 2) rfl (Nat.le_of_ble_eq_true rfl) (Nat.le_refl _) (Nat.le_refl _) ?_
  refine g_if_ne dX10_sailings_6 11 rfl 9 rfl (fun c1 => ?_) (fun c1 => ?_)
  · replace c1 := gB_t c1
    refine g_aload_n dX10_sailings_11 rfl 12 rfl rfl ?_
    refine g_cV0 (as := []) (st := []) dX10_sailings_12 15 rfl kX10_128 ⟨Nat.le_of_ble_eq_true rfl, Nat.le_of_ble_eq_true rfl⟩ (MX10_splits hsz hs) rfl rfl rfl rfl (Nat.le_of_ble_eq_true rfl) (Nat.le_refl _) (Nat.le_refl _) ?_
    refine g_iconst 0 dX10_sailings_15 16 rfl (by decide) ?_
    refine g_istore2 dX10_sailings_16 17 rfl (by decide) rfl ?_
    refine g_aload_n dX10_sailings_17 rfl 18 rfl rfl ?_
    refine g_cVv (as := []) (st := []) dX10_sailings_18 21 rfl kX10_98 ⟨Nat.le_of_ble_eq_true rfl, Nat.le_of_ble_eq_true rfl⟩ (MX10_alive hsz hs) rfl rfl rfl rfl (Nat.le_of_ble_eq_true rfl) (Nat.le_refl _) (Nat.le_refl _) ?_
    refine g_istore3 dX10_sailings_21 22 rfl (by decide) rfl ?_
    refine g_iconst 1 dX10_sailings_22 23 rfl (by decide) ?_
    refine g_istore4 dX10_sailings_23 25 rfl (by decide) rfl ?_
    refine LX10_sailings_25 hsz hs (shl_sz hsz hs) (pw9 hs) ((2 ^ sz) - 1) 1 0 (rX10_alive told s sz) (by have := Nat.one_le_two_pow (n := sz); omega) (by decide) ?_
    refine g_aload_n dX10_sailings_124 rfl 125 rfl rfl ?_
    refine g_get (v := .ref 9) dX10_sailings_125 128 rfl lX10_34 rfl rfl ?_
    refine g_iload_n dX10_sailings_128 rfl 129 rfl rfl ?_
    refine g_iaload (N := 512) dX10_sailings_129 130 rfl rfl (vp_in_nI (slU _ _ _ _ _ _ _ (by have := Nat.one_le_two_pow (n := sz); have := pw9 hs; omega) (Nat.le_of_ble_eq_true rfl)) (by decide)) ?_
    refine g_ldc (100000) dX10_sailings_130 132 rfl vX10_127 ?_
    refine g_iadd dX10_sailings_132 133 rfl ?_
    refine g_iconst 1 dX10_sailings_133 134 rfl (by decide) ?_
    refine g_isub dX10_sailings_134 135 rfl ?_
    refine g_ldc (100000) dX10_sailings_135 137 rfl vX10_127 ?_
    refine g_idiv dX10_sailings_137 138 rfl (by decide) ?_
    refine g_istore4 dX10_sailings_138 140 rfl (by decide) rfl ?_
    refine g_iload_n dX10_sailings_140 rfl 141 rfl rfl ?_
    refine g_if_ne dX10_sailings_141 149 rfl 144 rfl (fun c2 => ?_) (fun c2 => ?_)
    · refine g_iload_n dX10_sailings_149 rfl 150 rfl rfl ?_
      refine g_iconst 1 dX10_sailings_150 151 rfl (by decide) ?_
      refine g_icmp_ne dX10_sailings_151 169 rfl 154 rfl (fun c3 => ?_) (fun c3 => ?_)
      · refine g_iload_n dX10_sailings_169 rfl 170 rfl rfl ?_
        refine g_ireturn dX10_sailings_170 rfl rfl (Nat.le_refl _) (Nat.le_refl _) ?_
        have e : (rX10_sailings told s alone parts what sz) = (((gLp (fX10_sailings_25 told s ((rX10_splits told s alone parts sz).2) sz) ((2 ^ sz) - 1) 1 (0, (rX10_alive told s sz))).2), ((rX10_splits told s alone parts sz).1), ((rX10_splits told s alone parts sz).2)) := by rw [rX10_sailings, if_pos c1, if_neg c2, if_neg c3]
        rw [e]
        exact ⟨rfl, rfl⟩
      · refine g_ldc (100000) dX10_sailings_154 156 rfl vX10_127 ?_
        refine g_iload dX10_sailings_156 158 rfl rfl ?_
        refine g_imul dX10_sailings_158 159 rfl ?_
        refine g_aload_n dX10_sailings_159 rfl 160 rfl rfl ?_
        refine g_get (v := .ref 9) dX10_sailings_160 163 rfl lX10_34 rfl rfl ?_
        refine g_iload_n dX10_sailings_163 rfl 164 rfl rfl ?_
        refine g_iaload (N := 512) dX10_sailings_164 165 rfl rfl (vp_in_nI (slU _ _ _ _ _ _ _ (by have := Nat.one_le_two_pow (n := sz); have := pw9 hs; omega) (Nat.le_of_ble_eq_true rfl)) (by decide)) ?_
        refine g_isub dX10_sailings_165 166 rfl ?_
        refine g_goto dX10_sailings_166 170 rfl ?_
        refine g_ireturn dX10_sailings_170 rfl rfl (Nat.le_refl _) (Nat.le_refl _) ?_
        have e : (rX10_sailings told s alone parts what sz) = (((100000 * ((((((rX10_splits told s alone parts sz).2) (nI ((gLp (fX10_sailings_25 told s ((rX10_splits told s alone parts sz).2) sz) ((2 ^ sz) - 1) 1 (0, (rX10_alive told s sz))).1))) + 100000) - 1) / 100000)) - (((rX10_splits told s alone parts sz).2) (nI ((gLp (fX10_sailings_25 told s ((rX10_splits told s alone parts sz).2) sz) ((2 ^ sz) - 1) 1 (0, (rX10_alive told s sz))).1)))), ((rX10_splits told s alone parts sz).1), ((rX10_splits told s alone parts sz).2)) := by rw [rX10_sailings, if_pos c1, if_neg c2, if_pos c3]
        rw [e]
        exact ⟨rfl, rfl⟩
    · refine g_iload dX10_sailings_144 146 rfl rfl ?_
      refine g_goto dX10_sailings_146 170 rfl ?_
      refine g_ireturn dX10_sailings_170 rfl rfl (Nat.le_refl _) (Nat.le_refl _) ?_
      have e : (rX10_sailings told s alone parts what sz) = (((((((rX10_splits told s alone parts sz).2) (nI ((gLp (fX10_sailings_25 told s ((rX10_splits told s alone parts sz).2) sz) ((2 ^ sz) - 1) 1 (0, (rX10_alive told s sz))).1))) + 100000) - 1) / 100000), ((rX10_splits told s alone parts sz).1), ((rX10_splits told s alone parts sz).2)) := by rw [rX10_sailings, if_pos c1, if_pos c2]
      rw [e]
      exact ⟨rfl, rfl⟩
  · replace c1 := gB_f c1
    refine g_iconst (-1) dX10_sailings_9 10 rfl (by decide) ?_
    refine g_ireturn dX10_sailings_10 rfl rfl (Nat.le_refl _) (Nat.le_refl _) ?_
    have e : (rX10_sailings told s alone parts what sz) = ((-1), alone, parts) := by rw [rX10_sailings, if_neg c1]
    rw [e]
    exact ⟨rfl, rfl⟩
def fX10_setsWith_10 (told : Int32 → Int32) (s : Int32 → Int32) (p : Nat) (t : Nat) (sz : Nat) : Nat → (Int32) → (Int32)
  | i, u0 => (if ((nI i) &&& ((nI t) ^^^ (-1))) = 0 then (if (((nI i) >>> ((nI p) &&& 31)) &&& 1) = 1 then (if (rX10_sails told s (nI i) sz) = true then (u0 + 1) else (u0 + 0)) else (u0 + 0)) else (u0 + 0))
set_option maxRecDepth 100000 in
set_option maxHeartbeats 4000000 in
theorem LX10_setsWith_10 {w : gW} {al : Bool} {typed known kept noted at_ : Int32} {text told draft s past images notes alone parts held : Int32 → Int32} {n : Nat} {P : gP} {sz : Nat} {p : Nat} {t : Nat} (hsz : told 0 = nI sz) (hs : sz ≤ 9) (ht : t < 512)  : ∀ (d i : Nat) (u0 : Int32), i + d = t + 1 → G w gT0 al n mX10_setsWith 0 0 P 0 0 (hM text typed told draft s past known images kept notes noted at_ alone parts held) 58 [.ref 0, .int (nI p), .int (gLp (fX10_setsWith_10 told s p t sz) d i u0), .int (nI t), .int (nI (t + 1))] [] → G w gT0 al n mX10_setsWith 0 0 P 0 0 (hM text typed told draft s past known images kept notes noted at_ alone parts held) 10 [.ref 0, .int (nI p), .int u0, .int (nI t), .int (nI i)] []
  | 0, i, u0, hi, k => by
    have hN : i = t + 1 := by omega
    rw [hN]
    rw [hN] at k
    refine g_iload dX10_setsWith_10 12 rfl rfl ?_
    refine g_iload_n dX10_setsWith_12 rfl 13 rfl rfl ?_
    refine g_icmp_gt dX10_setsWith_13 58 rfl 16 rfl (fun _ => ?_) (fun c => absurd (nI_lt (by omega) (by omega)) c)
    exact k
  | d + 1, i, u0, hi, k => by
    refine g_iload dX10_setsWith_10 12 rfl rfl ?_
    refine g_iload_n dX10_setsWith_12 rfl 13 rfl rfl ?_
    refine g_icmp_gt dX10_setsWith_13 58 rfl 16 rfl (fun c => absurd c (nI_nlt (by omega) (by omega))) (fun _ => ?_)
    refine g_iload_n dX10_setsWith_16 rfl 17 rfl rfl ?_
    refine g_iload dX10_setsWith_17 19 rfl rfl ?_
    refine g_iload_n dX10_setsWith_19 rfl 20 rfl rfl ?_
    refine g_iconst (-1) dX10_setsWith_20 21 rfl (by decide) ?_
    refine g_ixor dX10_setsWith_21 22 rfl ?_
    refine g_iand dX10_setsWith_22 23 rfl ?_
    refine g_if_ne dX10_setsWith_23 49 rfl 26 rfl (fun c1 => ?_) (fun c1 => ?_)
    · refine g_iconst 0 dX10_setsWith_49 50 rfl (by decide) ?_
      refine g_iadd dX10_setsWith_50 51 rfl ?_
      refine g_istore2 dX10_setsWith_51 52 rfl (by decide) rfl ?_
      refine g_iinc4 dX10_setsWith_52 55 rfl 1 (by decide) (nI (i + 1)) (nI_add _ 1) (by decide) rfl ?_
      refine g_goto dX10_setsWith_55 10 rfl ?_
      have e : (fX10_setsWith_10 told s p t sz) i u0 = (u0 + 0) := by rw [fX10_setsWith_10, if_neg c1]
      refine LX10_setsWith_10 hsz hs ht d (i + 1) (u0 + 0) (by omega) ?_
      rw [← e]
      exact k
    · refine g_iload dX10_setsWith_26 28 rfl rfl ?_
      refine g_iload_n dX10_setsWith_28 rfl 29 rfl rfl ?_
      refine g_ishr dX10_setsWith_29 30 rfl ?_
      refine g_iconst 1 dX10_setsWith_30 31 rfl (by decide) ?_
      refine g_iand dX10_setsWith_31 32 rfl ?_
      refine g_iconst 1 dX10_setsWith_32 33 rfl (by decide) ?_
      refine g_icmp_ne dX10_setsWith_33 49 rfl 36 rfl (fun c2 => ?_) (fun c2 => ?_)
      · refine g_iconst 0 dX10_setsWith_49 50 rfl (by decide) ?_
        refine g_iadd dX10_setsWith_50 51 rfl ?_
        refine g_istore2 dX10_setsWith_51 52 rfl (by decide) rfl ?_
        refine g_iinc4 dX10_setsWith_52 55 rfl 1 (by decide) (nI (i + 1)) (nI_add _ 1) (by decide) rfl ?_
        refine g_goto dX10_setsWith_55 10 rfl ?_
        have e : (fX10_setsWith_10 told s p t sz) i u0 = (u0 + 0) := by rw [fX10_setsWith_10, if_pos c1, if_neg c2]
        refine LX10_setsWith_10 hsz hs ht d (i + 1) (u0 + 0) (by omega) ?_
        rw [← e]
        exact k
      · refine g_aload_n dX10_setsWith_36 rfl 37 rfl rfl ?_
        refine g_iload dX10_setsWith_37 39 rfl rfl ?_
        refine g_cVv (as := [.int (nI i)]) (st := [.int u0]) dX10_setsWith_39 42 rfl kX10_104 ⟨Nat.le_of_ble_eq_true rfl, Nat.le_of_ble_eq_true rfl⟩ (MX10_sails (nI i) hsz hs) rfl rfl rfl rfl (Nat.le_of_ble_eq_true rfl) (Nat.le_refl _) (Nat.le_refl _) ?_
        refine g_if_eq dX10_setsWith_42 49 rfl 45 rfl (fun c3 => ?_) (fun c3 => ?_)
        · replace c3 := gB_f c3
          refine g_iconst 0 dX10_setsWith_49 50 rfl (by decide) ?_
          refine g_iadd dX10_setsWith_50 51 rfl ?_
          refine g_istore2 dX10_setsWith_51 52 rfl (by decide) rfl ?_
          refine g_iinc4 dX10_setsWith_52 55 rfl 1 (by decide) (nI (i + 1)) (nI_add _ 1) (by decide) rfl ?_
          refine g_goto dX10_setsWith_55 10 rfl ?_
          have e : (fX10_setsWith_10 told s p t sz) i u0 = (u0 + 0) := by rw [fX10_setsWith_10, if_pos c1, if_pos c2, if_neg c3]
          refine LX10_setsWith_10 hsz hs ht d (i + 1) (u0 + 0) (by omega) ?_
          rw [← e]
          exact k
        · replace c3 := gB_t c3
          refine g_iconst 1 dX10_setsWith_45 46 rfl (by decide) ?_
          refine g_goto dX10_setsWith_46 50 rfl ?_
          refine g_iadd dX10_setsWith_50 51 rfl ?_
          refine g_istore2 dX10_setsWith_51 52 rfl (by decide) rfl ?_
          refine g_iinc4 dX10_setsWith_52 55 rfl 1 (by decide) (nI (i + 1)) (nI_add _ 1) (by decide) rfl ?_
          refine g_goto dX10_setsWith_55 10 rfl ?_
          have e : (fX10_setsWith_10 told s p t sz) i u0 = (u0 + 1) := by rw [fX10_setsWith_10, if_pos c1, if_pos c2, if_pos c3]
          refine LX10_setsWith_10 hsz hs ht d (i + 1) (u0 + 1) (by omega) ?_
          rw [← e]
          exact k
def rX10_setsWith (told : Int32 → Int32) (s : Int32 → Int32) (p : Nat) (sz : Nat) : Int32 := (gLp (fX10_setsWith_10 told s p (tP told s sz) sz) ((tP told s sz) + 1 - 1) 1 0)
set_option maxRecDepth 100000 in
set_option maxHeartbeats 4000000 in
theorem MX10_setsWith {w : gW} {al : Bool} {typed known kept noted at_ : Int32} {text told draft s past images notes alone parts held : Int32 → Int32} {sz : Nat} (p : Nat) (hsz : told 0 = nI sz) (hs : sz ≤ 9)  : M w gT0 al mX10_setsWith 0 0 (hM text typed told draft s past known images kept notes noted at_ alone parts held) [.ref 0, .int (nI p)] (gEq (hM text typed told draft s past known images kept notes noted at_ alone parts held) (some (.int (rX10_setsWith told s p sz)))) := by
  refine M.of (L0 := [.ref 0, .int (nI p), gF, gF, gF]) (by decide +kernel) (Nat.le_of_ble_eq_true rfl) rfl ?_
  refine g_iconst 0 dX10_setsWith_0 1 rfl (by decide) ?_
  refine g_istore2 dX10_setsWith_1 2 rfl (by decide) rfl ?_
  refine g_aload_n dX10_setsWith_2 rfl 3 rfl rfl ?_
  refine g_cVv (as := []) (st := []) dX10_setsWith_3 6 rfl kX10_116 ⟨Nat.le_of_ble_eq_true rfl, Nat.le_of_ble_eq_true rfl⟩ (MX10_present' hsz hs) rfl rfl rfl rfl (Nat.le_of_ble_eq_true rfl) (Nat.le_refl _) (Nat.le_refl _) ?_
  refine g_istore3 dX10_setsWith_6 7 rfl (by decide) rfl ?_
  refine g_iconst 1 dX10_setsWith_7 8 rfl (by decide) ?_
  refine g_istore4 dX10_setsWith_8 10 rfl (by decide) rfl ?_
  refine LX10_setsWith_10 hsz hs (tP_512 _ _ hs) ((tP told s sz) + 1 - 1) 1 0 (by omega) ?_
  refine g_iload_n dX10_setsWith_58 rfl 59 rfl rfl ?_
  refine g_ireturn dX10_setsWith_59 rfl rfl (Nat.le_refl _) (Nat.le_refl _) ?_
  have e : (rX10_setsWith told s p sz) = (gLp (fX10_setsWith_10 told s p (tP told s sz) sz) ((tP told s sz) + 1 - 1) 1 0) := by rw [rX10_setsWith]
  rw [e]
  exact ⟨rfl, rfl⟩
def rX10_setsFor (told : Int32 → Int32) (s : Int32 → Int32) (p : Nat) (sz : Nat) : Int32 := (if (((nI (tP told s sz)) >>> ((nI p) &&& 31)) &&& 1) = 0 then (-2) else (rX10_setsWith told s p sz))
set_option maxRecDepth 100000 in
set_option maxHeartbeats 4000000 in
theorem MX10_setsFor {w : gW} {al : Bool} {typed known kept noted at_ : Int32} {text told draft s past images notes alone parts held : Int32 → Int32} {sz : Nat} (p : Nat) (hsz : told 0 = nI sz) (hs : sz ≤ 9) (hv : rX10_isPerson told (nI p) = true)  : M w gT0 al mX10_setsFor 0 0 (hM text typed told draft s past known images kept notes noted at_ alone parts held) [.ref 0, .int (nI p)] (gEq (hM text typed told draft s past known images kept notes noted at_ alone parts held) (some (.int (rX10_setsFor told s p sz)))) := by
  refine M.of (L0 := [.ref 0, .int (nI p)]) (by decide +kernel) (Nat.le_of_ble_eq_true rfl) rfl ?_
  refine g_aload_n dX10_setsFor_0 rfl 1 rfl rfl ?_
  refine g_iload_n dX10_setsFor_1 rfl 2 rfl rfl ?_
  refine g_cVv (as := [.int (nI p)]) (st := []) dX10_setsFor_2 5 rfl kX10_95 ⟨Nat.le_of_ble_eq_true rfl, Nat.le_of_ble_eq_true rfl⟩ (MX10_isPerson (nI p)) rfl rfl rfl rfl (Nat.le_of_ble_eq_true rfl) (Nat.le_refl _) (Nat.le_refl _) ?_
  refine g_if_ne dX10_setsFor_5 10 rfl 8 rfl (fun _ => ?_) (fun c => absurd c (gB_1 hv))
  refine g_aload_n dX10_setsFor_10 rfl 11 rfl rfl ?_
  refine g_cVv (as := []) (st := []) dX10_setsFor_11 14 rfl kX10_116 ⟨Nat.le_of_ble_eq_true rfl, Nat.le_of_ble_eq_true rfl⟩ (MX10_present' hsz hs) rfl rfl rfl rfl (Nat.le_of_ble_eq_true rfl) (Nat.le_refl _) (Nat.le_refl _) ?_
  refine g_iload_n dX10_setsFor_14 rfl 15 rfl rfl ?_
  refine g_ishr dX10_setsFor_15 16 rfl ?_
  refine g_iconst 1 dX10_setsFor_16 17 rfl (by decide) ?_
  refine g_iand dX10_setsFor_17 18 rfl ?_
  refine g_if_ne dX10_setsFor_18 26 rfl 21 rfl (fun c1 => ?_) (fun c1 => ?_)
  · refine g_aload_n dX10_setsFor_26 rfl 27 rfl rfl ?_
    refine g_iload_n dX10_setsFor_27 rfl 28 rfl rfl ?_
    refine g_cVv (as := [.int (nI p)]) (st := []) dX10_setsFor_28 31 rfl kX10_131 ⟨Nat.le_of_ble_eq_true rfl, Nat.le_of_ble_eq_true rfl⟩ (MX10_setsWith p hsz hs) rfl rfl rfl rfl (Nat.le_of_ble_eq_true rfl) (Nat.le_refl _) (Nat.le_refl _) ?_
    refine g_ireturn dX10_setsFor_31 rfl rfl (Nat.le_refl _) (Nat.le_refl _) ?_
    have e : (rX10_setsFor told s p sz) = (rX10_setsWith told s p sz) := by rw [rX10_setsFor, if_neg c1]
    rw [e]
    exact ⟨rfl, rfl⟩
  · refine g_bipush (-2) dX10_setsFor_21 23 rfl (by decide) ?_
    refine g_goto dX10_setsFor_23 31 rfl ?_
    refine g_ireturn dX10_setsFor_31 rfl rfl (Nat.le_refl _) (Nat.le_refl _) ?_
    have e : (rX10_setsFor told s p sz) = (-2) := by rw [rX10_setsFor, if_pos c1]
    rw [e]
    exact ⟨rfl, rfl⟩
def rX10_setsFor_x  : Int32 := (-1)
set_option maxRecDepth 100000 in
set_option maxHeartbeats 4000000 in
theorem MX10_setsFor_x {w : gW} {al : Bool} {typed known kept noted at_ : Int32} {text told draft s past images notes alone parts held : Int32 → Int32} {sz : Nat} (p : Int32) (hsz : told 0 = nI sz) (hs : sz ≤ 9) (hv : ¬ rX10_isPerson told p = true)  : M w gT0 al mX10_setsFor 0 0 (hM text typed told draft s past known images kept notes noted at_ alone parts held) [.ref 0, .int p] (gEq (hM text typed told draft s past known images kept notes noted at_ alone parts held) (some (.int rX10_setsFor_x))) := by
  refine M.of (L0 := [.ref 0, .int p]) (by decide +kernel) (Nat.le_of_ble_eq_true rfl) rfl ?_
  refine g_aload_n dX10_setsFor_0 rfl 1 rfl rfl ?_
  refine g_iload_n dX10_setsFor_1 rfl 2 rfl rfl ?_
  refine g_cVv (as := [.int p]) (st := []) dX10_setsFor_2 5 rfl kX10_95 ⟨Nat.le_of_ble_eq_true rfl, Nat.le_of_ble_eq_true rfl⟩ (MX10_isPerson p) rfl rfl rfl rfl (Nat.le_of_ble_eq_true rfl) (Nat.le_refl _) (Nat.le_refl _) ?_
  refine g_if_ne dX10_setsFor_5 10 rfl 8 rfl (fun c => absurd (gB_0 hv) c) (fun _ => ?_)
  refine g_iconst (-1) dX10_setsFor_8 9 rfl (by decide) ?_
  refine g_ireturn dX10_setsFor_9 rfl rfl (Nat.le_refl _) (Nat.le_refl _) ?_
  have e : rX10_setsFor_x = (-1) := by rw [rX10_setsFor_x]
  rw [e]
  exact ⟨rfl, rfl⟩
def fX10_oddOnes_7 (told : Int32 → Int32) (s : Int32 → Int32) (sz : Nat) : Nat → (Int32) → (Int32)
  | i, u0 => (if (rX10_setsWith told s i sz) ≤ 0 then (u0 &&& (-1)) else (u0 &&& ((1 <<< ((nI i) &&& 31)) ^^^ (-1))))
set_option maxRecDepth 100000 in
set_option maxHeartbeats 4000000 in
theorem LX10_oddOnes_7 {w : gW} {al : Bool} {typed known kept noted at_ : Int32} {text told draft s past images notes alone parts held : Int32 → Int32} {n : Nat} {P : gP} {sz : Nat} (hsz : told 0 = nI sz) (hs : sz ≤ 9)  : ∀ (d i : Nat) (u0 : Int32), i + d = sz → G w gT0 al n mX10_oddOnes 0 0 P 0 0 (hM text typed told draft s past known images kept notes noted at_ alone parts held) 43 [.ref 0, .int (gLp (fX10_oddOnes_7 told s sz) d i u0), .int (nI sz)] [] → G w gT0 al n mX10_oddOnes 0 0 P 0 0 (hM text typed told draft s past known images kept notes noted at_ alone parts held) 7 [.ref 0, .int u0, .int (nI i)] []
  | 0, i, u0, hi, k => by
    have hN : i = sz := by omega
    rw [hN]
    rw [hN] at k
    refine g_iload_n dX10_oddOnes_7 rfl 8 rfl rfl ?_
    refine g_aload_n dX10_oddOnes_8 rfl 9 rfl rfl ?_
    refine g_get (v := .ref 2) dX10_oddOnes_9 12 rfl lX10_13 rfl rfl ?_
    refine g_iconst 0 dX10_oddOnes_12 13 rfl (by decide) ?_
    refine g_iaload (N := 40) dX10_oddOnes_13 14 rfl rfl (vp_in_iff.mpr (by decide)) ?_
    refine g_icmp_ge dX10_oddOnes_14 43 rfl 17 rfl (fun _ => ?_) (fun c => absurd (by rw [hsz]; exact nI_le (Nat.le_refl _) (by omega)) c)
    exact k
  | d + 1, i, u0, hi, k => by
    refine g_iload_n dX10_oddOnes_7 rfl 8 rfl rfl ?_
    refine g_aload_n dX10_oddOnes_8 rfl 9 rfl rfl ?_
    refine g_get (v := .ref 2) dX10_oddOnes_9 12 rfl lX10_13 rfl rfl ?_
    refine g_iconst 0 dX10_oddOnes_12 13 rfl (by decide) ?_
    refine g_iaload (N := 40) dX10_oddOnes_13 14 rfl rfl (vp_in_iff.mpr (by decide)) ?_
    refine g_icmp_ge dX10_oddOnes_14 43 rfl 17 rfl (fun c => absurd c (by rw [hsz]; exact nI_ge (by omega) (by omega))) (fun _ => ?_)
    refine g_iload_n dX10_oddOnes_17 rfl 18 rfl rfl ?_
    refine g_aload_n dX10_oddOnes_18 rfl 19 rfl rfl ?_
    refine g_iload_n dX10_oddOnes_19 rfl 20 rfl rfl ?_
    refine g_cVv (as := [.int (nI i)]) (st := [.int u0]) dX10_oddOnes_20 23 rfl kX10_131 ⟨Nat.le_of_ble_eq_true rfl, Nat.le_of_ble_eq_true rfl⟩ (MX10_setsWith i hsz hs) rfl rfl rfl rfl (Nat.le_of_ble_eq_true rfl) (Nat.le_refl _) (Nat.le_refl _) ?_
    refine g_if_le dX10_oddOnes_23 34 rfl 26 rfl (fun c1 => ?_) (fun c1 => ?_)
    · refine g_iconst (-1) dX10_oddOnes_34 35 rfl (by decide) ?_
      refine g_iand dX10_oddOnes_35 36 rfl ?_
      refine g_istore1 dX10_oddOnes_36 37 rfl (by decide) rfl ?_
      refine g_iinc2 dX10_oddOnes_37 40 rfl 1 (by decide) (nI (i + 1)) (nI_add _ 1) (by decide) rfl ?_
      refine g_goto dX10_oddOnes_40 7 rfl ?_
      have e : (fX10_oddOnes_7 told s sz) i u0 = (u0 &&& (-1)) := by rw [fX10_oddOnes_7, if_pos c1]
      refine LX10_oddOnes_7 hsz hs d (i + 1) (u0 &&& (-1)) (by omega) ?_
      rw [← e]
      exact k
    · refine g_iconst 1 dX10_oddOnes_26 27 rfl (by decide) ?_
      refine g_iload_n dX10_oddOnes_27 rfl 28 rfl rfl ?_
      refine g_ishl dX10_oddOnes_28 29 rfl ?_
      refine g_iconst (-1) dX10_oddOnes_29 30 rfl (by decide) ?_
      refine g_ixor dX10_oddOnes_30 31 rfl ?_
      refine g_goto dX10_oddOnes_31 35 rfl ?_
      refine g_iand dX10_oddOnes_35 36 rfl ?_
      refine g_istore1 dX10_oddOnes_36 37 rfl (by decide) rfl ?_
      refine g_iinc2 dX10_oddOnes_37 40 rfl 1 (by decide) (nI (i + 1)) (nI_add _ 1) (by decide) rfl ?_
      refine g_goto dX10_oddOnes_40 7 rfl ?_
      have e : (fX10_oddOnes_7 told s sz) i u0 = (u0 &&& ((1 <<< ((nI i) &&& 31)) ^^^ (-1))) := by rw [fX10_oddOnes_7, if_neg c1]
      refine LX10_oddOnes_7 hsz hs d (i + 1) (u0 &&& ((1 <<< ((nI i) &&& 31)) ^^^ (-1))) (by omega) ?_
      rw [← e]
      exact k
def rX10_oddOnes (told : Int32 → Int32) (s : Int32 → Int32) (sz : Nat) : Int32 := (gLp (fX10_oddOnes_7 told s sz) sz 0 (nI (tP told s sz)))
set_option maxRecDepth 100000 in
set_option maxHeartbeats 4000000 in
theorem MX10_oddOnes {w : gW} {al : Bool} {typed known kept noted at_ : Int32} {text told draft s past images notes alone parts held : Int32 → Int32} {sz : Nat} (hsz : told 0 = nI sz) (hs : sz ≤ 9)  : M w gT0 al mX10_oddOnes 0 0 (hM text typed told draft s past known images kept notes noted at_ alone parts held) [.ref 0] (gEq (hM text typed told draft s past known images kept notes noted at_ alone parts held) (some (.int (rX10_oddOnes told s sz)))) := by
  refine M.of (L0 := [.ref 0, gF, gF]) (by decide +kernel) (Nat.le_of_ble_eq_true rfl) rfl ?_
  refine g_aload_n dX10_oddOnes_0 rfl 1 rfl rfl ?_
  refine g_cVv (as := []) (st := []) dX10_oddOnes_1 4 rfl kX10_116 ⟨Nat.le_of_ble_eq_true rfl, Nat.le_of_ble_eq_true rfl⟩ (MX10_present' hsz hs) rfl rfl rfl rfl (Nat.le_of_ble_eq_true rfl) (Nat.le_refl _) (Nat.le_refl _) ?_
  refine g_istore1 dX10_oddOnes_4 5 rfl (by decide) rfl ?_
  refine g_iconst 0 dX10_oddOnes_5 6 rfl (by decide) ?_
  refine g_istore2 dX10_oddOnes_6 7 rfl (by decide) rfl ?_
  refine LX10_oddOnes_7 hsz hs sz 0 (nI (tP told s sz)) (by omega) ?_
  refine g_iload_n dX10_oddOnes_43 rfl 44 rfl rfl ?_
  refine g_ireturn dX10_oddOnes_44 rfl rfl (Nat.le_refl _) (Nat.le_refl _) ?_
  have e : (rX10_oddOnes told s sz) = (gLp (fX10_oddOnes_7 told s sz) sz 0 (nI (tP told s sz))) := by rw [rX10_oddOnes]
  rw [e]
  exact ⟨rfl, rfl⟩
