/-! the reference: who stays by chance -/
/-- how many a set has -/
def tOnes (t : Nat) : Nat := (rX10_ones (nI t)).toNatClampNeg
theorem tOnes_all : ∀ t, t < 512 → rX10_ones (nI t) = nI (tOnes t) ∧ tOnes t ≤ 9 := by decide +kernel
def fX10_stays_35  : Nat → (Int32) → (Int32)
  | _, u0 => (u0 * 10)
set_option maxRecDepth 100000 in
set_option maxHeartbeats 4000000 in
theorem LX10_stays_35 {w : gW} {al : Bool} {typed known kept noted at_ : Int32} {text told draft s past images notes alone parts held : Int32 → Int32} {n : Nat} {P : gP} {o9 : Nat} {x : Int32} {part : Int32} {t : Nat} {u5 : Int32} (ho : rX10_ones (nI t) = nI o9) (ho9 : o9 ≤ 9)  : ∀ (d i : Nat) (u0 : Int32), i + d = o9 → G w gT0 al n mX10_stays 0 0 P 0 0 (hM text typed told draft s past known images kept notes noted at_ alone parts held) 57 [.ref 0, .int x, .int part, .int (nI t), .int (gLp fX10_stays_35 d i u0), .int u5, .int (nI o9), gF, gF, gF, gF] [] → G w gT0 al n mX10_stays 0 0 P 0 0 (hM text typed told draft s past known images kept notes noted at_ alone parts held) 35 [.ref 0, .int x, .int part, .int (nI t), .int u0, .int u5, .int (nI i), gF, gF, gF, gF] []
  | 0, i, u0, hi, k => by
    have hN : i = o9 := by omega
    rw [hN]
    rw [hN] at k
    refine g_iload dX10_stays_35 37 rfl rfl ?_
    refine g_iload_n dX10_stays_37 rfl 38 rfl rfl ?_
    refine g_cSv (as := [.int (nI t)]) (st := [.int (nI o9)]) dX10_stays_38 41 rfl kX10_119 ⟨Nat.le_of_ble_eq_true rfl, Nat.le_of_ble_eq_true rfl⟩ (MX10_ones (nI t)) rfl (Nat.le_of_ble_eq_true rfl) (Nat.le_refl _) (Nat.le_refl _) ?_
    refine g_icmp_ge dX10_stays_41 57 rfl 44 rfl (fun _ => ?_) (fun c => absurd (by rw [ho]; exact nI_le (Nat.le_refl _) (by omega)) c)
    exact k
  | d + 1, i, u0, hi, k => by
    refine g_iload dX10_stays_35 37 rfl rfl ?_
    refine g_iload_n dX10_stays_37 rfl 38 rfl rfl ?_
    refine g_cSv (as := [.int (nI t)]) (st := [.int (nI i)]) dX10_stays_38 41 rfl kX10_119 ⟨Nat.le_of_ble_eq_true rfl, Nat.le_of_ble_eq_true rfl⟩ (MX10_ones (nI t)) rfl (Nat.le_of_ble_eq_true rfl) (Nat.le_refl _) (Nat.le_refl _) ?_
    refine g_icmp_ge dX10_stays_41 57 rfl 44 rfl (fun c => absurd c (by rw [ho]; exact nI_ge (by omega) (by omega))) (fun _ => ?_)
    refine g_iload dX10_stays_44 46 rfl rfl ?_
    refine g_bipush 10 dX10_stays_46 48 rfl (by decide) ?_
    refine g_imul dX10_stays_48 49 rfl ?_
    refine g_istore4 dX10_stays_49 51 rfl (by decide) rfl ?_
    refine g_iinc6 dX10_stays_51 54 rfl 1 (by decide) (nI (i + 1)) (nI_add _ 1) (by decide) rfl ?_
    refine g_goto dX10_stays_54 35 rfl ?_
    have e : fX10_stays_35 i u0 = (u0 * 10) := by rw [fX10_stays_35]
    refine LX10_stays_35 ho ho9 d (i + 1) (u0 * 10) (by omega) ?_
    rw [← e]
    exact k
def fX10_stays_112 (parts : Int32 → Int32) (x : Int32) (t : Nat) (v : Nat) : Nat → (Int32 × Int32) → (Int32 × Int32)
  | i, (u0, u1) => (if (((nI v) >>> ((nI i) &&& 31)) &&& 1) = 1 then (if (((nI t) >>> ((nI i) &&& 31)) &&& 1) = 0 then ((u0 * 1), (u1 ||| (parts (nI (v ^^^ (v &&& (2 ^ i))))))) else ((u0 * x), (u1 ||| (parts (nI (v ^^^ (v &&& (2 ^ i)))))))) else (if (((nI t) >>> ((nI i) &&& 31)) &&& 1) = 0 then ((u0 * 1), (u1 ||| 0)) else ((u0 * (10 - x)), (u1 ||| 0))))
set_option maxRecDepth 100000 in
set_option maxHeartbeats 4000000 in
theorem LX10_stays_112 {w : gW} {al : Bool} {typed known kept noted at_ : Int32} {text told draft s past images notes alone parts held : Int32 → Int32} {n : Nat} {P : gP} {sz : Nat} {x : Int32} {part : Int32} {t : Nat} {u4 : Int32} {u5 : Int32} {v : Nat} (hsz : told 0 = nI sz) (hs : sz ≤ 9) (hv : v < 512)  : ∀ (d i : Nat) (u0 : Int32) (u1 : Int32), i + d = sz → G w gT0 al n mX10_stays 0 0 P 0 0 (hM text typed told draft s past known images kept notes noted at_ alone parts held) 206 [.ref 0, .int x, .int part, .int (nI t), .int u4, .int u5, .int (nI v), .int ((gLp (fX10_stays_112 parts x t v) d i (u0, u1)).1), .int ((gLp (fX10_stays_112 parts x t v) d i (u0, u1)).2), .int (nI sz), gF] [] → G w gT0 al n mX10_stays 0 0 P 0 0 (hM text typed told draft s past known images kept notes noted at_ alone parts held) 112 [.ref 0, .int x, .int part, .int (nI t), .int u4, .int u5, .int (nI v), .int u0, .int u1, .int (nI i), gF] []
  | 0, i, u0, u1, hi, k => by
    have hN : i = sz := by omega
    rw [hN]
    rw [hN] at k
    refine g_iload dX10_stays_112 114 rfl rfl ?_
    refine g_aload_n dX10_stays_114 rfl 115 rfl rfl ?_
    refine g_get (v := .ref 2) dX10_stays_115 118 rfl lX10_13 rfl rfl ?_
    refine g_iconst 0 dX10_stays_118 119 rfl (by decide) ?_
    refine g_iaload (N := 40) dX10_stays_119 120 rfl rfl (vp_in_iff.mpr (by decide)) ?_
    refine g_icmp_ge dX10_stays_120 206 rfl 123 rfl (fun _ => ?_) (fun c => absurd (by rw [hsz]; exact nI_le (Nat.le_refl _) (by omega)) c)
    exact k
  | d + 1, i, u0, u1, hi, k => by
    refine g_iload dX10_stays_112 114 rfl rfl ?_
    refine g_aload_n dX10_stays_114 rfl 115 rfl rfl ?_
    refine g_get (v := .ref 2) dX10_stays_115 118 rfl lX10_13 rfl rfl ?_
    refine g_iconst 0 dX10_stays_118 119 rfl (by decide) ?_
    refine g_iaload (N := 40) dX10_stays_119 120 rfl rfl (vp_in_iff.mpr (by decide)) ?_
    refine g_icmp_ge dX10_stays_120 206 rfl 123 rfl (fun c => absurd c (by rw [hsz]; exact nI_ge (by omega) (by omega))) (fun _ => ?_)
    refine g_iload dX10_stays_123 125 rfl rfl ?_
    refine g_iload dX10_stays_125 127 rfl rfl ?_
    refine g_ishr dX10_stays_127 128 rfl ?_
    refine g_iconst 1 dX10_stays_128 129 rfl (by decide) ?_
    refine g_iand dX10_stays_129 130 rfl ?_
    refine g_iconst 1 dX10_stays_130 131 rfl (by decide) ?_
    refine g_icmp_ne dX10_stays_131 138 rfl 134 rfl (fun c1 => ?_) (fun c1 => ?_)
    · refine g_iconst 0 dX10_stays_138 139 rfl (by decide) ?_
      refine g_istore10 dX10_stays_139 141 rfl (by decide) rfl ?_
      refine g_iload dX10_stays_141 143 rfl rfl ?_
      refine g_iload_n dX10_stays_143 rfl 144 rfl rfl ?_
      refine g_iload dX10_stays_144 146 rfl rfl ?_
      refine g_ishr dX10_stays_146 147 rfl ?_
      refine g_iconst 1 dX10_stays_147 148 rfl (by decide) ?_
      refine g_iand dX10_stays_148 149 rfl ?_
      refine g_if_ne dX10_stays_149 156 rfl 152 rfl (fun c3 => ?_) (fun c3 => ?_)
      · refine g_iload dX10_stays_156 158 rfl rfl ?_
        refine g_if_eq dX10_stays_158 165 rfl 161 rfl (fun _ => ?_) (fun c => absurd (by decide) c)
        refine g_bipush 10 dX10_stays_165 167 rfl (by decide) ?_
        refine g_iload_n dX10_stays_167 rfl 168 rfl rfl ?_
        refine g_isub dX10_stays_168 169 rfl ?_
        refine g_imul dX10_stays_169 170 rfl ?_
        refine g_istore7 dX10_stays_170 172 rfl (by decide) rfl ?_
        refine g_iload dX10_stays_172 174 rfl rfl ?_
        refine g_iload dX10_stays_174 176 rfl rfl ?_
        refine g_if_eq dX10_stays_176 196 rfl 179 rfl (fun _ => ?_) (fun c => absurd (by decide) c)
        refine g_iconst 0 dX10_stays_196 197 rfl (by decide) ?_
        refine g_ior dX10_stays_197 198 rfl ?_
        refine g_istore8 dX10_stays_198 200 rfl (by decide) rfl ?_
        refine g_iinc9 dX10_stays_200 203 rfl 1 (by decide) (nI (i + 1)) (nI_add _ 1) (by decide) rfl ?_
        refine g_goto dX10_stays_203 112 rfl ?_
        refine g_fgt (L' := [.ref 0, .int x, .int part, .int (nI t), .int u4, .int u5, .int (nI v), .int (u0 * (10 - x)), .int (u1 ||| 0), .int (nI (i + 1)), gF]) ⟨Or.inl rfl, Or.inl rfl, Or.inl rfl, Or.inl rfl, Or.inl rfl, Or.inl rfl, Or.inl rfl, Or.inl rfl, Or.inl rfl, Or.inl rfl, Or.inr rfl, trivial⟩ ?_
        have e : (fX10_stays_112 parts x t v) i (u0, u1) = ((u0 * (10 - x)), (u1 ||| 0)) := by rw [fX10_stays_112, if_neg c1, if_neg c3]
        refine LX10_stays_112 hsz hs hv d (i + 1) (u0 * (10 - x)) (u1 ||| 0) (by omega) ?_
        rw [← e]
        exact k
      · refine g_iconst 1 dX10_stays_152 153 rfl (by decide) ?_
        refine g_goto dX10_stays_153 169 rfl ?_
        refine g_imul dX10_stays_169 170 rfl ?_
        refine g_istore7 dX10_stays_170 172 rfl (by decide) rfl ?_
        refine g_iload dX10_stays_172 174 rfl rfl ?_
        refine g_iload dX10_stays_174 176 rfl rfl ?_
        refine g_if_eq dX10_stays_176 196 rfl 179 rfl (fun _ => ?_) (fun c => absurd (by decide) c)
        refine g_iconst 0 dX10_stays_196 197 rfl (by decide) ?_
        refine g_ior dX10_stays_197 198 rfl ?_
        refine g_istore8 dX10_stays_198 200 rfl (by decide) rfl ?_
        refine g_iinc9 dX10_stays_200 203 rfl 1 (by decide) (nI (i + 1)) (nI_add _ 1) (by decide) rfl ?_
        refine g_goto dX10_stays_203 112 rfl ?_
        refine g_fgt (L' := [.ref 0, .int x, .int part, .int (nI t), .int u4, .int u5, .int (nI v), .int (u0 * 1), .int (u1 ||| 0), .int (nI (i + 1)), gF]) ⟨Or.inl rfl, Or.inl rfl, Or.inl rfl, Or.inl rfl, Or.inl rfl, Or.inl rfl, Or.inl rfl, Or.inl rfl, Or.inl rfl, Or.inl rfl, Or.inr rfl, trivial⟩ ?_
        have e : (fX10_stays_112 parts x t v) i (u0, u1) = ((u0 * 1), (u1 ||| 0)) := by rw [fX10_stays_112, if_neg c1, if_pos c3]
        refine LX10_stays_112 hsz hs hv d (i + 1) (u0 * 1) (u1 ||| 0) (by omega) ?_
        rw [← e]
        exact k
    · refine g_iconst 1 dX10_stays_134 135 rfl (by decide) ?_
      refine g_goto dX10_stays_135 139 rfl ?_
      refine g_istore10 dX10_stays_139 141 rfl (by decide) rfl ?_
      refine g_iload dX10_stays_141 143 rfl rfl ?_
      refine g_iload_n dX10_stays_143 rfl 144 rfl rfl ?_
      refine g_iload dX10_stays_144 146 rfl rfl ?_
      refine g_ishr dX10_stays_146 147 rfl ?_
      refine g_iconst 1 dX10_stays_147 148 rfl (by decide) ?_
      refine g_iand dX10_stays_148 149 rfl ?_
      refine g_if_ne dX10_stays_149 156 rfl 152 rfl (fun c2 => ?_) (fun c2 => ?_)
      · refine g_iload dX10_stays_156 158 rfl rfl ?_
        refine g_if_eq dX10_stays_158 165 rfl 161 rfl (fun c => absurd c (by decide)) (fun _ => ?_)
        refine g_iload_n dX10_stays_161 rfl 162 rfl rfl ?_
        refine g_goto dX10_stays_162 169 rfl ?_
        refine g_imul dX10_stays_169 170 rfl ?_
        refine g_istore7 dX10_stays_170 172 rfl (by decide) rfl ?_
        refine g_iload dX10_stays_172 174 rfl rfl ?_
        refine g_iload dX10_stays_174 176 rfl rfl ?_
        refine g_if_eq dX10_stays_176 196 rfl 179 rfl (fun c => absurd c (by decide)) (fun _ => ?_)
        refine g_aload_n dX10_stays_179 rfl 180 rfl rfl ?_
        refine g_get (v := .ref 9) dX10_stays_180 183 rfl lX10_34 rfl rfl ?_
        refine g_iload dX10_stays_183 185 rfl rfl ?_
        refine g_iconst 1 dX10_stays_185 186 rfl (by decide) ?_
        refine g_iload dX10_stays_186 188 rfl rfl ?_
        refine g_ishl' dX10_stays_188 189 rfl (nI (2 ^ i)) (z_1shl (by omega)) ?_
        refine g_iconst (-1) dX10_stays_189 190 rfl (by decide) ?_
        refine g_ixor dX10_stays_190 191 rfl ?_
        refine g_iand' dX10_stays_191 192 rfl (nI (v ^^^ (v &&& (2 ^ i)))) (z_andn _ _) ?_
        refine g_iaload (N := 512) dX10_stays_192 193 rfl rfl (vp_in_nI (Nat.lt_of_le_of_lt z_le (by omega)) (by decide)) ?_
        refine g_goto dX10_stays_193 197 rfl ?_
        refine g_ior dX10_stays_197 198 rfl ?_
        refine g_istore8 dX10_stays_198 200 rfl (by decide) rfl ?_
        refine g_iinc9 dX10_stays_200 203 rfl 1 (by decide) (nI (i + 1)) (nI_add _ 1) (by decide) rfl ?_
        refine g_goto dX10_stays_203 112 rfl ?_
        refine g_fgt (L' := [.ref 0, .int x, .int part, .int (nI t), .int u4, .int u5, .int (nI v), .int (u0 * x), .int (u1 ||| (parts (nI (v ^^^ (v &&& (2 ^ i)))))), .int (nI (i + 1)), gF]) ⟨Or.inl rfl, Or.inl rfl, Or.inl rfl, Or.inl rfl, Or.inl rfl, Or.inl rfl, Or.inl rfl, Or.inl rfl, Or.inl rfl, Or.inl rfl, Or.inr rfl, trivial⟩ ?_
        have e : (fX10_stays_112 parts x t v) i (u0, u1) = ((u0 * x), (u1 ||| (parts (nI (v ^^^ (v &&& (2 ^ i))))))) := by rw [fX10_stays_112, if_pos c1, if_neg c2]
        refine LX10_stays_112 hsz hs hv d (i + 1) (u0 * x) (u1 ||| (parts (nI (v ^^^ (v &&& (2 ^ i)))))) (by omega) ?_
        rw [← e]
        exact k
      · refine g_iconst 1 dX10_stays_152 153 rfl (by decide) ?_
        refine g_goto dX10_stays_153 169 rfl ?_
        refine g_imul dX10_stays_169 170 rfl ?_
        refine g_istore7 dX10_stays_170 172 rfl (by decide) rfl ?_
        refine g_iload dX10_stays_172 174 rfl rfl ?_
        refine g_iload dX10_stays_174 176 rfl rfl ?_
        refine g_if_eq dX10_stays_176 196 rfl 179 rfl (fun c => absurd c (by decide)) (fun _ => ?_)
        refine g_aload_n dX10_stays_179 rfl 180 rfl rfl ?_
        refine g_get (v := .ref 9) dX10_stays_180 183 rfl lX10_34 rfl rfl ?_
        refine g_iload dX10_stays_183 185 rfl rfl ?_
        refine g_iconst 1 dX10_stays_185 186 rfl (by decide) ?_
        refine g_iload dX10_stays_186 188 rfl rfl ?_
        refine g_ishl' dX10_stays_188 189 rfl (nI (2 ^ i)) (z_1shl (by omega)) ?_
        refine g_iconst (-1) dX10_stays_189 190 rfl (by decide) ?_
        refine g_ixor dX10_stays_190 191 rfl ?_
        refine g_iand' dX10_stays_191 192 rfl (nI (v ^^^ (v &&& (2 ^ i)))) (z_andn _ _) ?_
        refine g_iaload (N := 512) dX10_stays_192 193 rfl rfl (vp_in_nI (Nat.lt_of_le_of_lt z_le (by omega)) (by decide)) ?_
        refine g_goto dX10_stays_193 197 rfl ?_
        refine g_ior dX10_stays_197 198 rfl ?_
        refine g_istore8 dX10_stays_198 200 rfl (by decide) rfl ?_
        refine g_iinc9 dX10_stays_200 203 rfl 1 (by decide) (nI (i + 1)) (nI_add _ 1) (by decide) rfl ?_
        refine g_goto dX10_stays_203 112 rfl ?_
        refine g_fgt (L' := [.ref 0, .int x, .int part, .int (nI t), .int u4, .int u5, .int (nI v), .int (u0 * 1), .int (u1 ||| (parts (nI (v ^^^ (v &&& (2 ^ i)))))), .int (nI (i + 1)), gF]) ⟨Or.inl rfl, Or.inl rfl, Or.inl rfl, Or.inl rfl, Or.inl rfl, Or.inl rfl, Or.inl rfl, Or.inl rfl, Or.inl rfl, Or.inl rfl, Or.inr rfl, trivial⟩ ?_
        have e : (fX10_stays_112 parts x t v) i (u0, u1) = ((u0 * 1), (u1 ||| (parts (nI (v ^^^ (v &&& (2 ^ i))))))) := by rw [fX10_stays_112, if_pos c1, if_pos c2]
        refine LX10_stays_112 hsz hs hv d (i + 1) (u0 * 1) (u1 ||| (parts (nI (v ^^^ (v &&& (2 ^ i)))))) (by omega) ?_
        rw [← e]
        exact k
def fX10_stays_60 (told : Int32 → Int32) (s : Int32 → Int32) (x : Int32) (t : Nat) (sz : Nat) : Nat → ((Int32 → Int32) × Int32) → ((Int32 → Int32) × Int32)
  | i, (parts, u0) => (if ((nI i) &&& ((nI t) ^^^ (-1))) = 0 then (if (rX10_sails told s (nI i) sz) = true then ((gup (gup parts (nI i) 0) (nI i) ((gLp (fX10_stays_112 (gup parts (nI i) 0) x t i) sz 0 (1, 1)).2)), (u0 + (((gLp (fX10_stays_112 (gup parts (nI i) 0) x t i) sz 0 (1, 1)).2) * ((gLp (fX10_stays_112 (gup parts (nI i) 0) x t i) sz 0 (1, 1)).1)))) else ((gup (gup parts (nI i) 0) (nI i) ((gLp (fX10_stays_112 (gup parts (nI i) 0) x t i) sz 0 (1, 0)).2)), (u0 + (((gLp (fX10_stays_112 (gup parts (nI i) 0) x t i) sz 0 (1, 0)).2) * ((gLp (fX10_stays_112 (gup parts (nI i) 0) x t i) sz 0 (1, 0)).1))))) else ((gup parts (nI i) 0), u0))
set_option maxRecDepth 100000 in
set_option maxHeartbeats 4000000 in
theorem LX10_stays_60 {w : gW} {al : Bool} {typed known kept noted at_ : Int32} {text told draft s past images notes alone held : Int32 → Int32} {n : Nat} {P : gP} {sz tt : Nat} {x : Int32} {part : Int32} {t : Nat} {u4 : Int32} (hsz : told 0 = nI sz) (hs : sz ≤ 9) (h2 : (1 : Int32) <<< ((told 0) &&& 31) = nI tt) (h2b : tt ≤ 512)  : ∀ (d i : Nat) (parts : Int32 → Int32) (u0 : Int32), i + d = tt → G w gT0 al n mX10_stays 0 0 P 0 0 (hM text typed told draft s past known images kept notes noted at_ alone ((gLp (fX10_stays_60 told s x t sz) d i (parts, u0)).1) held) 231 [.ref 0, .int x, .int part, .int (nI t), .int u4, .int ((gLp (fX10_stays_60 told s x t sz) d i (parts, u0)).2), .int (nI tt), gF, gF, gF, gF] [] → G w gT0 al n mX10_stays 0 0 P 0 0 (hM text typed told draft s past known images kept notes noted at_ alone parts held) 60 [.ref 0, .int x, .int part, .int (nI t), .int u4, .int u0, .int (nI i), gF, gF, gF, gF] []
  | 0, i, parts, u0, hi, k => by
    have hN : i = tt := by omega
    rw [hN]
    rw [hN] at k
    refine g_iload dX10_stays_60 62 rfl rfl ?_
    refine g_iconst 1 dX10_stays_62 63 rfl (by decide) ?_
    refine g_aload_n dX10_stays_63 rfl 64 rfl rfl ?_
    refine g_get (v := .ref 2) dX10_stays_64 67 rfl lX10_13 rfl rfl ?_
    refine g_iconst 0 dX10_stays_67 68 rfl (by decide) ?_
    refine g_iaload (N := 40) dX10_stays_68 69 rfl rfl (vp_in_iff.mpr (by decide)) ?_
    refine g_ishl dX10_stays_69 70 rfl ?_
    refine g_icmp_ge dX10_stays_70 231 rfl 73 rfl (fun _ => ?_) (fun c => absurd (by rw [h2]; exact nI_le (Nat.le_refl _) (by omega)) c)
    exact k
  | d + 1, i, parts, u0, hi, k => by
    refine g_iload dX10_stays_60 62 rfl rfl ?_
    refine g_iconst 1 dX10_stays_62 63 rfl (by decide) ?_
    refine g_aload_n dX10_stays_63 rfl 64 rfl rfl ?_
    refine g_get (v := .ref 2) dX10_stays_64 67 rfl lX10_13 rfl rfl ?_
    refine g_iconst 0 dX10_stays_67 68 rfl (by decide) ?_
    refine g_iaload (N := 40) dX10_stays_68 69 rfl rfl (vp_in_iff.mpr (by decide)) ?_
    refine g_ishl dX10_stays_69 70 rfl ?_
    refine g_icmp_ge dX10_stays_70 231 rfl 73 rfl (fun c => absurd c (by rw [h2]; exact nI_ge (by omega) (by omega))) (fun _ => ?_)
    refine g_aload_n dX10_stays_73 rfl 74 rfl rfl ?_
    refine g_get (v := .ref 9) dX10_stays_74 77 rfl lX10_34 rfl rfl ?_
    refine g_iload dX10_stays_77 79 rfl rfl ?_
    refine g_iconst 0 dX10_stays_79 80 rfl (by decide) ?_
    refine g_iastore (N := 512) dX10_stays_80 81 rfl rfl (by decide) (vp_in_nI (by omega) (by decide)) (h' := (hM text typed told draft s past known images kept notes noted at_ alone (gup parts (nI i) 0) held)) rfl ?_
    refine g_iload dX10_stays_81 83 rfl rfl ?_
    refine g_iload_n dX10_stays_83 rfl 84 rfl rfl ?_
    refine g_iconst (-1) dX10_stays_84 85 rfl (by decide) ?_
    refine g_ixor dX10_stays_85 86 rfl ?_
    refine g_iand dX10_stays_86 87 rfl ?_
    refine g_if_ne dX10_stays_87 225 rfl 90 rfl (fun c1 => ?_) (fun c1 => ?_)
    · refine g_iinc6 dX10_stays_225 228 rfl 1 (by decide) (nI (i + 1)) (nI_add _ 1) (by decide) rfl ?_
      refine g_goto dX10_stays_228 60 rfl ?_
      have e : (fX10_stays_60 told s x t sz) i (parts, u0) = ((gup parts (nI i) 0), u0) := by rw [fX10_stays_60, if_neg c1]
      refine LX10_stays_60 hsz hs h2 h2b d (i + 1) (gup parts (nI i) 0) u0 (by omega) ?_
      rw [← e]
      exact k
    · refine g_iconst 1 dX10_stays_90 91 rfl (by decide) ?_
      refine g_istore7 dX10_stays_91 93 rfl (by decide) rfl ?_
      refine g_aload_n dX10_stays_93 rfl 94 rfl rfl ?_
      refine g_iload dX10_stays_94 96 rfl rfl ?_
      refine g_cVv (as := [.int (nI i)]) (st := []) dX10_stays_96 99 rfl kX10_104 ⟨Nat.le_of_ble_eq_true rfl, Nat.le_of_ble_eq_true rfl⟩ (MX10_sails (nI i) hsz hs) rfl rfl rfl rfl (Nat.le_of_ble_eq_true rfl) (Nat.le_refl _) (Nat.le_refl _) ?_
      refine g_if_eq dX10_stays_99 106 rfl 102 rfl (fun c2 => ?_) (fun c2 => ?_)
      · replace c2 := gB_f c2
        refine g_iconst 0 dX10_stays_106 107 rfl (by decide) ?_
        refine g_istore8 dX10_stays_107 109 rfl (by decide) rfl ?_
        refine g_iconst 0 dX10_stays_109 110 rfl (by decide) ?_
        refine g_istore9 dX10_stays_110 112 rfl (by decide) rfl ?_
        refine LX10_stays_112 hsz hs (by omega) sz 0 1 0 (by omega) ?_
        refine g_aload_n dX10_stays_206 rfl 207 rfl rfl ?_
        refine g_get (v := .ref 9) dX10_stays_207 210 rfl lX10_34 rfl rfl ?_
        refine g_iload dX10_stays_210 212 rfl rfl ?_
        refine g_iload dX10_stays_212 214 rfl rfl ?_
        refine g_iastore (N := 512) dX10_stays_214 215 rfl rfl (by decide) (vp_in_nI (by omega) (by decide)) (h' := (hM text typed told draft s past known images kept notes noted at_ alone (gup (gup parts (nI i) 0) (nI i) ((gLp (fX10_stays_112 (gup parts (nI i) 0) x t i) sz 0 (1, 0)).2)) held)) rfl ?_
        refine g_iload dX10_stays_215 217 rfl rfl ?_
        refine g_iload dX10_stays_217 219 rfl rfl ?_
        refine g_iload dX10_stays_219 221 rfl rfl ?_
        refine g_imul dX10_stays_221 222 rfl ?_
        refine g_iadd dX10_stays_222 223 rfl ?_
        refine g_istore5 dX10_stays_223 225 rfl (by decide) rfl ?_
        refine g_iinc6 dX10_stays_225 228 rfl 1 (by decide) (nI (i + 1)) (nI_add _ 1) (by decide) rfl ?_
        refine g_goto dX10_stays_228 60 rfl ?_
        refine g_fgt (L' := [.ref 0, .int x, .int part, .int (nI t), .int u4, .int (u0 + (((gLp (fX10_stays_112 (gup parts (nI i) 0) x t i) sz 0 (1, 0)).2) * ((gLp (fX10_stays_112 (gup parts (nI i) 0) x t i) sz 0 (1, 0)).1))), .int (nI (i + 1)), gF, gF, gF, gF]) ⟨Or.inl rfl, Or.inl rfl, Or.inl rfl, Or.inl rfl, Or.inl rfl, Or.inl rfl, Or.inl rfl, Or.inr rfl, Or.inr rfl, Or.inr rfl, Or.inl rfl, trivial⟩ ?_
        have e : (fX10_stays_60 told s x t sz) i (parts, u0) = ((gup (gup parts (nI i) 0) (nI i) ((gLp (fX10_stays_112 (gup parts (nI i) 0) x t i) sz 0 (1, 0)).2)), (u0 + (((gLp (fX10_stays_112 (gup parts (nI i) 0) x t i) sz 0 (1, 0)).2) * ((gLp (fX10_stays_112 (gup parts (nI i) 0) x t i) sz 0 (1, 0)).1)))) := by rw [fX10_stays_60, if_pos c1, if_neg c2]
        refine LX10_stays_60 hsz hs h2 h2b d (i + 1) (gup (gup parts (nI i) 0) (nI i) ((gLp (fX10_stays_112 (gup parts (nI i) 0) x t i) sz 0 (1, 0)).2)) (u0 + (((gLp (fX10_stays_112 (gup parts (nI i) 0) x t i) sz 0 (1, 0)).2) * ((gLp (fX10_stays_112 (gup parts (nI i) 0) x t i) sz 0 (1, 0)).1))) (by omega) ?_
        rw [← e]
        exact k
      · replace c2 := gB_t c2
        refine g_iconst 1 dX10_stays_102 103 rfl (by decide) ?_
        refine g_goto dX10_stays_103 107 rfl ?_
        refine g_istore8 dX10_stays_107 109 rfl (by decide) rfl ?_
        refine g_iconst 0 dX10_stays_109 110 rfl (by decide) ?_
        refine g_istore9 dX10_stays_110 112 rfl (by decide) rfl ?_
        refine LX10_stays_112 hsz hs (by omega) sz 0 1 1 (by omega) ?_
        refine g_aload_n dX10_stays_206 rfl 207 rfl rfl ?_
        refine g_get (v := .ref 9) dX10_stays_207 210 rfl lX10_34 rfl rfl ?_
        refine g_iload dX10_stays_210 212 rfl rfl ?_
        refine g_iload dX10_stays_212 214 rfl rfl ?_
        refine g_iastore (N := 512) dX10_stays_214 215 rfl rfl (by decide) (vp_in_nI (by omega) (by decide)) (h' := (hM text typed told draft s past known images kept notes noted at_ alone (gup (gup parts (nI i) 0) (nI i) ((gLp (fX10_stays_112 (gup parts (nI i) 0) x t i) sz 0 (1, 1)).2)) held)) rfl ?_
        refine g_iload dX10_stays_215 217 rfl rfl ?_
        refine g_iload dX10_stays_217 219 rfl rfl ?_
        refine g_iload dX10_stays_219 221 rfl rfl ?_
        refine g_imul dX10_stays_221 222 rfl ?_
        refine g_iadd dX10_stays_222 223 rfl ?_
        refine g_istore5 dX10_stays_223 225 rfl (by decide) rfl ?_
        refine g_iinc6 dX10_stays_225 228 rfl 1 (by decide) (nI (i + 1)) (nI_add _ 1) (by decide) rfl ?_
        refine g_goto dX10_stays_228 60 rfl ?_
        refine g_fgt (L' := [.ref 0, .int x, .int part, .int (nI t), .int u4, .int (u0 + (((gLp (fX10_stays_112 (gup parts (nI i) 0) x t i) sz 0 (1, 1)).2) * ((gLp (fX10_stays_112 (gup parts (nI i) 0) x t i) sz 0 (1, 1)).1))), .int (nI (i + 1)), gF, gF, gF, gF]) ⟨Or.inl rfl, Or.inl rfl, Or.inl rfl, Or.inl rfl, Or.inl rfl, Or.inl rfl, Or.inl rfl, Or.inr rfl, Or.inr rfl, Or.inr rfl, Or.inl rfl, trivial⟩ ?_
        have e : (fX10_stays_60 told s x t sz) i (parts, u0) = ((gup (gup parts (nI i) 0) (nI i) ((gLp (fX10_stays_112 (gup parts (nI i) 0) x t i) sz 0 (1, 1)).2)), (u0 + (((gLp (fX10_stays_112 (gup parts (nI i) 0) x t i) sz 0 (1, 1)).2) * ((gLp (fX10_stays_112 (gup parts (nI i) 0) x t i) sz 0 (1, 1)).1)))) := by rw [fX10_stays_60, if_pos c1, if_pos c2]
        refine LX10_stays_60 hsz hs h2 h2b d (i + 1) (gup (gup parts (nI i) 0) (nI i) ((gLp (fX10_stays_112 (gup parts (nI i) 0) x t i) sz 0 (1, 1)).2)) (u0 + (((gLp (fX10_stays_112 (gup parts (nI i) 0) x t i) sz 0 (1, 1)).2) * ((gLp (fX10_stays_112 (gup parts (nI i) 0) x t i) sz 0 (1, 1)).1))) (by omega) ?_
        rw [← e]
        exact k
def fX10_stays_239  : Nat → (Int32 × Int32) → Bool × (Int32 × Int32)
  | _, (u0, u1) => (if u1 ≤ 0 then (true, (u0, u1)) else (false, (u1, (u0 - u0 / u1 * u1))))
set_option maxRecDepth 100000 in
set_option maxHeartbeats 4000000 in
theorem LX10_stays_239 {w : gW} {al : Bool} {typed known kept noted at_ : Int32} {text told draft s past images notes alone parts held : Int32 → Int32} {n : Nat} {P : gP}  {x : Int32} {part : Int32} {t : Nat} {u4 : Int32} {u5 : Int32}  : ∀ (d i : Nat) (u0 : Int32) (u1 : Int32), gWhT fX10_stays_239 d i (u0, u1) → G w gT0 al n mX10_stays 0 0 P 0 0 (hM text typed told draft s past known images kept notes noted at_ alone parts held) 262 [.ref 0, .int x, .int part, .int (nI t), .int u4, .int u5, .int ((gWh fX10_stays_239 d i (u0, u1)).1), .int ((gWh fX10_stays_239 d i (u0, u1)).2), gF, gF, gF] [] → G w gT0 al n mX10_stays 0 0 P 0 0 (hM text typed told draft s past known images kept notes noted at_ alone parts held) 239 [.ref 0, .int x, .int part, .int (nI t), .int u4, .int u5, .int u0, .int u1, gF, gF, gF] []
  | 0, i, u0, u1, hT, k => absurd hT (by simp [gWhT])
  | d + 1, i, u0, u1, hT, k => by
    refine g_iload dX10_stays_239 241 rfl rfl ?_
    refine g_if_le dX10_stays_241 262 rfl 244 rfl (fun c1 => ?_) (fun c1 => ?_)
    · have e : fX10_stays_239 i (u0, u1) = (true, (u0, u1)) := by rw [fX10_stays_239, if_pos c1]
      rw [gWh_t e] at k
      exact k
    · refine g_iload dX10_stays_244 246 rfl rfl ?_
      refine g_iload dX10_stays_246 248 rfl rfl ?_
      refine g_irem dX10_stays_248 249 rfl (fun z => c1 (by rw [z]; decide)) ?_
      refine g_istore8 dX10_stays_249 251 rfl (by decide) rfl ?_
      refine g_iload dX10_stays_251 253 rfl rfl ?_
      refine g_istore6 dX10_stays_253 255 rfl (by decide) rfl ?_
      refine g_iload dX10_stays_255 257 rfl rfl ?_
      refine g_istore7 dX10_stays_257 259 rfl (by decide) rfl ?_
      refine g_goto dX10_stays_259 239 rfl ?_
      refine g_fgt (L' := [.ref 0, .int x, .int part, .int (nI t), .int u4, .int u5, .int u1, .int (u0 - u0 / u1 * u1), gF, gF, gF]) ⟨Or.inl rfl, Or.inl rfl, Or.inl rfl, Or.inl rfl, Or.inl rfl, Or.inl rfl, Or.inl rfl, Or.inl rfl, Or.inr rfl, Or.inl rfl, Or.inl rfl, trivial⟩ ?_
      have e : fX10_stays_239 i (u0, u1) = (false, (u1, (u0 - u0 / u1 * u1))) := by rw [fX10_stays_239, if_neg c1]
      refine LX10_stays_239  d (i + 1) u1 (u0 - u0 / u1 * u1) (gWhT_f e hT) ?_
      rw [gWh_f e] at k
      exact k
/-- a rest is below what divides -/
theorem st_rem {a b : Int32} (hb : ¬ b ≤ 0) : (a - a / b * b).toInt = a.toInt.tmod b.toInt := by
  have h0 : 0 < b.toInt := by rw [Int32.le_iff_toInt_le, Int32.toInt_zero] at hb; omega
  have h1 := tmod_bounds (a := a.toInt) h0
  have h2 := b.toInt_lt
  have h3 := Int.mul_tdiv_add_tmod a.toInt b.toInt
  have e1 : (a / b * b).toInt = (a.toInt.tdiv b.toInt * b.toInt).bmod (2 ^ 32) := by rw [Int32.toInt_mul, Int32.toInt_div, Int.bmod_mul_bmod]
  rw [Int32.toInt_sub, e1, Int.sub_bmod_bmod]
  have e2 : a.toInt - a.toInt.tdiv b.toInt * b.toInt = a.toInt.tmod b.toInt := by rw [Int.mul_comm]; omega
  rw [e2]
  exact Int.bmod_eq_of_le (by omega) (by omega)
theorem stT : ∀ (d i : Nat) (a b : Int32), b.toNatClampNeg < d → gWhT fX10_stays_239 d i (a, b)
  | 0, i, a, b, h => absurd h (Nat.not_lt_zero _)
  | d + 1, i, a, b, h => by
    by_cases c : b ≤ 0
    · exact Or.inl (by rw [fX10_stays_239, if_pos c])
    · refine Or.inr ?_
      rw [fX10_stays_239, if_neg c]
      refine stT d (i + 1) _ _ ?_
      have h0 : 0 < b.toInt := by rw [Int32.le_iff_toInt_le, Int32.toInt_zero] at c; omega
      have h1 := (tmod_bounds (a := a.toInt) h0).2
      have h2 := st_rem (a := a) c
      unfold Int32.toNatClampNeg at h ⊢
      omega
theorem stNz : ∀ (d i : Nat) (a b : Int32), gWhT fX10_stays_239 d i (a, b) → ¬ b ≤ 0 ∨ ¬ a = 0 → ¬ (gWh fX10_stays_239 d i (a, b)).1 = 0
  | 0, i, a, b, h, _ => absurd h (by simp [gWhT])
  | d + 1, i, a, b, h, hz => by
    by_cases c : b ≤ 0
    · have e : fX10_stays_239 i (a, b) = (true, (a, b)) := by rw [fX10_stays_239, if_pos c]
      rw [gWh_t e]
      exact hz.resolve_left (fun z => z c)
    · have e : fX10_stays_239 i (a, b) = (false, (b, a - a / b * b)) := by rw [fX10_stays_239, if_neg c]
      rw [gWh_f e]
      exact stNz d (i + 1) _ _ (gWhT_f e h) (Or.inr (fun z => c (by rw [z]; decide)))
theorem stB : ∀ o, o < 10 → ¬ gLp fX10_stays_35 o 0 1 ≤ 0 := by decide +kernel
theorem stB2 (told s : Int32 → Int32) {sz : Nat} (hs : sz ≤ 9) : ¬ gLp fX10_stays_35 (tOnes (tP told s sz)) 0 1 ≤ 0 := stB _ (by have := (tOnes_all _ (tP_512 told s hs)).2; omega)
def rX10_stays (told : Int32 → Int32) (s : Int32 → Int32) (parts : Int32 → Int32) (x : Int32) (part : Int32) (sz : Nat) : Int32 × (Int32 → Int32) := (if (rX10_in x 0 10) = true then (if (rX10_in part 0 1) = true then (if part = 0 then ((((gLp (fX10_stays_60 told s x (tP told s sz) sz) (2 ^ sz) 0 (parts, 0)).2) / ((gWh fX10_stays_239 ((gLp fX10_stays_35 (tOnes (tP told s sz)) 0 1).toNatClampNeg + 1) 0 (((gLp (fX10_stays_60 told s x (tP told s sz) sz) (2 ^ sz) 0 (parts, 0)).2), (gLp fX10_stays_35 (tOnes (tP told s sz)) 0 1))).1)), ((gLp (fX10_stays_60 told s x (tP told s sz) sz) (2 ^ sz) 0 (parts, 0)).1)) else (((gLp fX10_stays_35 (tOnes (tP told s sz)) 0 1) / ((gWh fX10_stays_239 ((gLp fX10_stays_35 (tOnes (tP told s sz)) 0 1).toNatClampNeg + 1) 0 (((gLp (fX10_stays_60 told s x (tP told s sz) sz) (2 ^ sz) 0 (parts, 0)).2), (gLp fX10_stays_35 (tOnes (tP told s sz)) 0 1))).1)), ((gLp (fX10_stays_60 told s x (tP told s sz) sz) (2 ^ sz) 0 (parts, 0)).1))) else ((-1), parts)) else ((-1), parts))
set_option maxRecDepth 100000 in
set_option maxHeartbeats 4000000 in
theorem MX10_stays {w : gW} {al : Bool} {typed known kept noted at_ : Int32} {text told draft s past images notes alone parts held : Int32 → Int32} {sz : Nat} (x : Int32) (part : Int32) (hsz : told 0 = nI sz) (hs : sz ≤ 9)  : M w gT0 al mX10_stays 0 0 (hM text typed told draft s past known images kept notes noted at_ alone parts held) [.ref 0, .int x, .int part] (gEq (hM text typed told draft s past known images kept notes noted at_ alone ((rX10_stays told s parts x part sz).2) held) (some (.int ((rX10_stays told s parts x part sz).1)))) := by
  refine M.of (L0 := [.ref 0, .int x, .int part, gF, gF, gF, gF, gF, gF, gF, gF]) (by decide +kernel) (Nat.le_of_ble_eq_true rfl) rfl ?_
  refine g_iload_n dX10_stays_0 rfl 1 rfl rfl ?_
  refine g_iconst 0 dX10_stays_1 2 rfl (by decide) ?_
  refine g_bipush 10 dX10_stays_2 4 rfl (by decide) ?_
  refine g_cSv (as := [.int x, .int 0, .int 10]) (st := []) dX10_stays_4 7 rfl kX10_50 ⟨Nat.le_of_ble_eq_true rfl, Nat.le_of_ble_eq_true rfl⟩ (MX10_in x 0 10) rfl (Nat.le_of_ble_eq_true rfl) (Nat.le_refl _) (Nat.le_refl _) ?_
  refine g_if_eq dX10_stays_7 19 rfl 10 rfl (fun c1 => ?_) (fun c1 => ?_)
  · replace c1 := gB_f c1
    refine g_iconst (-1) dX10_stays_19 20 rfl (by decide) ?_
    refine g_ireturn dX10_stays_20 rfl rfl (Nat.le_refl _) (Nat.le_refl _) ?_
    have e : (rX10_stays told s parts x part sz) = ((-1), parts) := by rw [rX10_stays, if_neg c1]
    rw [e]
    exact ⟨rfl, rfl⟩
  · replace c1 := gB_t c1
    refine g_iload_n dX10_stays_10 rfl 11 rfl rfl ?_
    refine g_iconst 0 dX10_stays_11 12 rfl (by decide) ?_
    refine g_iconst 1 dX10_stays_12 13 rfl (by decide) ?_
    refine g_cSv (as := [.int part, .int 0, .int 1]) (st := []) dX10_stays_13 16 rfl kX10_50 ⟨Nat.le_of_ble_eq_true rfl, Nat.le_of_ble_eq_true rfl⟩ (MX10_in part 0 1) rfl (Nat.le_of_ble_eq_true rfl) (Nat.le_refl _) (Nat.le_refl _) ?_
    refine g_if_ne dX10_stays_16 21 rfl 19 rfl (fun c2 => ?_) (fun c2 => ?_)
    · replace c2 := gB_t c2
      refine g_aload_n dX10_stays_21 rfl 22 rfl rfl ?_
      refine g_cVv (as := []) (st := []) dX10_stays_22 25 rfl kX10_116 ⟨Nat.le_of_ble_eq_true rfl, Nat.le_of_ble_eq_true rfl⟩ (MX10_present' hsz hs) rfl rfl rfl rfl (Nat.le_of_ble_eq_true rfl) (Nat.le_refl _) (Nat.le_refl _) ?_
      refine g_istore3 dX10_stays_25 26 rfl (by decide) rfl ?_
      refine g_iconst 1 dX10_stays_26 27 rfl (by decide) ?_
      refine g_istore4 dX10_stays_27 29 rfl (by decide) rfl ?_
      refine g_iconst 0 dX10_stays_29 30 rfl (by decide) ?_
      refine g_istore5 dX10_stays_30 32 rfl (by decide) rfl ?_
      refine g_iconst 0 dX10_stays_32 33 rfl (by decide) ?_
      refine g_istore6 dX10_stays_33 35 rfl (by decide) rfl ?_
      refine LX10_stays_35 (tOnes_all _ (tP_512 _ _ hs)).1 (tOnes_all _ (tP_512 _ _ hs)).2 (tOnes (tP told s sz)) 0 1 (Nat.zero_add _) ?_
      refine g_iconst 0 dX10_stays_57 58 rfl (by decide) ?_
      refine g_istore6 dX10_stays_58 60 rfl (by decide) rfl ?_
      refine LX10_stays_60 hsz hs (shl_sz hsz hs) (pw9 hs) (2 ^ sz) 0 parts 0 (Nat.zero_add _) ?_
      refine g_iload dX10_stays_231 233 rfl rfl ?_
      refine g_istore6 dX10_stays_233 235 rfl (by decide) rfl ?_
      refine g_iload dX10_stays_235 237 rfl rfl ?_
      refine g_istore7 dX10_stays_237 239 rfl (by decide) rfl ?_
      refine LX10_stays_239  ((gLp fX10_stays_35 (tOnes (tP told s sz)) 0 1).toNatClampNeg + 1) 0 ((gLp (fX10_stays_60 told s x (tP told s sz) sz) (2 ^ sz) 0 (parts, 0)).2) (gLp fX10_stays_35 (tOnes (tP told s sz)) 0 1) (stT _ _ _ _ (Nat.lt_succ_self _)) ?_
      refine g_iload_n dX10_stays_262 rfl 263 rfl rfl ?_
      refine g_if_ne dX10_stays_263 274 rfl 266 rfl (fun c3 => ?_) (fun c3 => ?_)
      · refine g_iload dX10_stays_274 276 rfl rfl ?_
        refine g_iload dX10_stays_276 278 rfl rfl ?_
        refine g_idiv dX10_stays_278 279 rfl (stNz _ _ _ _ (stT _ _ _ _ (Nat.lt_succ_self _)) (Or.inl (stB2 told s hs))) ?_
        refine g_ireturn dX10_stays_279 rfl rfl (Nat.le_refl _) (Nat.le_refl _) ?_
        have e : (rX10_stays told s parts x part sz) = (((gLp fX10_stays_35 (tOnes (tP told s sz)) 0 1) / ((gWh fX10_stays_239 ((gLp fX10_stays_35 (tOnes (tP told s sz)) 0 1).toNatClampNeg + 1) 0 (((gLp (fX10_stays_60 told s x (tP told s sz) sz) (2 ^ sz) 0 (parts, 0)).2), (gLp fX10_stays_35 (tOnes (tP told s sz)) 0 1))).1)), ((gLp (fX10_stays_60 told s x (tP told s sz) sz) (2 ^ sz) 0 (parts, 0)).1)) := by rw [rX10_stays, if_pos c1, if_pos c2, if_neg c3]
        rw [e]
        exact ⟨rfl, rfl⟩
      · refine g_iload dX10_stays_266 268 rfl rfl ?_
        refine g_iload dX10_stays_268 270 rfl rfl ?_
        refine g_idiv dX10_stays_270 271 rfl (stNz _ _ _ _ (stT _ _ _ _ (Nat.lt_succ_self _)) (Or.inl (stB2 told s hs))) ?_
        refine g_goto dX10_stays_271 279 rfl ?_
        refine g_ireturn dX10_stays_279 rfl rfl (Nat.le_refl _) (Nat.le_refl _) ?_
        have e : (rX10_stays told s parts x part sz) = ((((gLp (fX10_stays_60 told s x (tP told s sz) sz) (2 ^ sz) 0 (parts, 0)).2) / ((gWh fX10_stays_239 ((gLp fX10_stays_35 (tOnes (tP told s sz)) 0 1).toNatClampNeg + 1) 0 (((gLp (fX10_stays_60 told s x (tP told s sz) sz) (2 ^ sz) 0 (parts, 0)).2), (gLp fX10_stays_35 (tOnes (tP told s sz)) 0 1))).1)), ((gLp (fX10_stays_60 told s x (tP told s sz) sz) (2 ^ sz) 0 (parts, 0)).1)) := by rw [rX10_stays, if_pos c1, if_pos c2, if_pos c3]
        rw [e]
        exact ⟨rfl, rfl⟩
    · replace c2 := gB_f c2
      refine g_iconst (-1) dX10_stays_19 20 rfl (by decide) ?_
      refine g_ireturn dX10_stays_20 rfl rfl (Nat.le_refl _) (Nat.le_refl _) ?_
      have e : (rX10_stays told s parts x part sz) = ((-1), parts) := by rw [rX10_stays, if_pos c1, if_neg c2]
      rw [e]
      exact ⟨rfl, rfl⟩
