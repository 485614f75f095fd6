/-! the reference: sums -/
def fX10_sums_82 (alone : Int32 → Int32) (v : Nat) : Nat → (Bool) → Bool × (Bool)
  | i, u0 => (if u0 = true then (if (alone (nI i)) = (alone (nI v)) then (false, false) else (false, true)) else (true, u0))
set_option maxRecDepth 100000 in
set_option maxHeartbeats 4000000 in
theorem LX10_sums_82 {w : gW} {al : Bool} {typed known kept noted at_ : Int32} {text told draft s past images notes alone parts held : Int32 → Int32} {n : Nat} {P : gP}  {what : Int32} {t : Nat} {u7 : Int32} {u8 : Int32} {u9 : Int32} {v : Nat} (hv : v < 512)  : ∀ (d i : Nat) (u0 : Bool), i + d = v → G w gT0 al n mX10_sums 0 0 P 0 0 (hM text typed told draft s past known images kept notes noted at_ alone parts held) 124 [.ref 0, .int what, .int (nI t), .int u7, .int u8, .int u9, .int (nI v), .int (gB (gWh (fX10_sums_82 alone v) d i u0)), gF, gF] [] → G w gT0 al n mX10_sums 0 0 P 0 0 (hM text typed told draft s past known images kept notes noted at_ alone parts held) 82 [.ref 0, .int what, .int (nI t), .int u7, .int u8, .int u9, .int (nI v), .int (gB u0), .int (nI i), gF] []
  | 0, i, u0, hi, k => by
    have hN : i = v := by omega
    rw [hN]
    rw [hN] at k
    refine g_iload dX10_sums_82 84 rfl rfl ?_
    refine g_iload dX10_sums_84 86 rfl rfl ?_
    refine g_icmp_ge dX10_sums_86 124 rfl 89 rfl (fun _ => ?_) (fun c => absurd (nI_le (Nat.le_refl _) (by omega)) c)
    refine g_fgt (L' := [.ref 0, .int what, .int (nI t), .int u7, .int u8, .int u9, .int (nI v), .int (gB u0), gF, gF]) ⟨Or.inl rfl, Or.inl rfl, Or.inl rfl, Or.inl rfl, Or.inl rfl, Or.inl rfl, Or.inl rfl, Or.inl rfl, Or.inr rfl, Or.inl rfl, trivial⟩ ?_
    exact k
  | d + 1, i, u0, hi, k => by
    refine g_iload dX10_sums_82 84 rfl rfl ?_
    refine g_iload dX10_sums_84 86 rfl rfl ?_
    refine g_icmp_ge dX10_sums_86 124 rfl 89 rfl (fun c => absurd c (nI_ge (by omega) (by omega))) (fun _ => ?_)
    refine g_iload dX10_sums_89 91 rfl rfl ?_
    refine g_if_eq dX10_sums_91 124 rfl 94 rfl (fun c1 => ?_) (fun c1 => ?_)
    · replace c1 := gB_f c1
      refine g_fgt (L' := [.ref 0, .int what, .int (nI t), .int u7, .int u8, .int u9, .int (nI v), .int (gB u0), gF, gF]) ⟨Or.inl rfl, Or.inl rfl, Or.inl rfl, Or.inl rfl, Or.inl rfl, Or.inl rfl, Or.inl rfl, Or.inl rfl, Or.inr rfl, Or.inl rfl, trivial⟩ ?_
      have e : (fX10_sums_82 alone v) i u0 = (true, u0) := by rw [fX10_sums_82, if_neg c1]
      rw [gWh_t e] at k
      exact k
    · replace c1 := gB_t c1
      refine g_aload_n dX10_sums_94 rfl 95 rfl rfl ?_
      refine g_get (v := .ref 8) dX10_sums_95 98 rfl lX10_31 rfl rfl ?_
      refine g_iload dX10_sums_98 100 rfl rfl ?_
      refine g_iaload (N := 512) dX10_sums_100 101 rfl rfl (vp_in_nI (by omega) (by decide)) ?_
      refine g_aload_n dX10_sums_101 rfl 102 rfl rfl ?_
      refine g_get (v := .ref 8) dX10_sums_102 105 rfl lX10_31 rfl rfl ?_
      refine g_iload dX10_sums_105 107 rfl rfl ?_
      refine g_iaload (N := 512) dX10_sums_107 108 rfl rfl (vp_in_nI (by omega) (by decide)) ?_
      refine g_icmp_eq dX10_sums_108 115 rfl 111 rfl (fun c2 => ?_) (fun c2 => ?_)
      · refine g_iconst 0 dX10_sums_115 116 rfl (by decide) ?_
        refine g_istore7 dX10_sums_116 118 rfl (by decide) rfl ?_
        refine g_iinc8 dX10_sums_118 121 rfl 1 (by decide) (nI (i + 1)) (nI_add _ 1) (by decide) rfl ?_
        refine g_goto dX10_sums_121 82 rfl ?_
        have e : (fX10_sums_82 alone v) i u0 = (false, false) := by rw [fX10_sums_82, if_pos c1, if_pos c2]
        refine LX10_sums_82 hv d (i + 1) false (by omega) ?_
        rw [gWh_f e] at k
        exact k
      · refine g_iconst 1 dX10_sums_111 112 rfl (by decide) ?_
        refine g_goto dX10_sums_112 116 rfl ?_
        refine g_istore7 dX10_sums_116 118 rfl (by decide) rfl ?_
        refine g_iinc8 dX10_sums_118 121 rfl 1 (by decide) (nI (i + 1)) (nI_add _ 1) (by decide) rfl ?_
        refine g_goto dX10_sums_121 82 rfl ?_
        have e : (fX10_sums_82 alone v) i u0 = (false, true) := by rw [fX10_sums_82, if_pos c1, if_neg c2]
        refine LX10_sums_82 hv d (i + 1) true (by omega) ?_
        rw [gWh_f e] at k
        exact k
def fX10_sums_30 (told : Int32 → Int32) (s : Int32 → Int32) (t : Nat) (sz : Nat) : Nat → ((Int32 → Int32) × Int32 × Int32 × Int32) → ((Int32 → Int32) × Int32 × Int32 × Int32)
  | i, (alone, u0, u1, u2) => (if ((nI i) &&& ((nI t) ^^^ (-1))) = 0 then (if (rX10_sumOf told s (nI i) sz) < 0 then (if (told 1) ≤ (rX10_sumOf told s (nI i) sz) then (if (gWh (fX10_sums_82 (gup alone (nI i) (rX10_sumOf told s (nI i) sz)) i) (i - 1) 1 false) = true then (if ((rX10_sumOf told s (nI i) sz) - (told 1)) < u2 then ((gup alone (nI i) (rX10_sumOf told s (nI i) sz)), (u0 + 1), (rX10_sumOf told s (nI i) sz), ((rX10_sumOf told s (nI i) sz) - (told 1))) else (if ((rX10_sumOf told s (nI i) sz) - (told 1)) = u2 then (if u1 ≤ (rX10_sumOf told s (nI i) sz) then ((gup alone (nI i) (rX10_sumOf told s (nI i) sz)), (u0 + 1), u1, u2) else ((gup alone (nI i) (rX10_sumOf told s (nI i) sz)), (u0 + 1), (rX10_sumOf told s (nI i) sz), ((rX10_sumOf told s (nI i) sz) - (told 1)))) else ((gup alone (nI i) (rX10_sumOf told s (nI i) sz)), (u0 + 1), u1, u2))) else ((gup alone (nI i) (rX10_sumOf told s (nI i) sz)), (u0 + 0), u1, u2)) else (if (gWh (fX10_sums_82 (gup alone (nI i) (rX10_sumOf told s (nI i) sz)) i) (i - 1) 1 false) = true then (if ((told 1) - (rX10_sumOf told s (nI i) sz)) < u2 then ((gup alone (nI i) (rX10_sumOf told s (nI i) sz)), (u0 + 1), (rX10_sumOf told s (nI i) sz), ((told 1) - (rX10_sumOf told s (nI i) sz))) else (if ((told 1) - (rX10_sumOf told s (nI i) sz)) = u2 then (if u1 ≤ (rX10_sumOf told s (nI i) sz) then ((gup alone (nI i) (rX10_sumOf told s (nI i) sz)), (u0 + 1), u1, u2) else ((gup alone (nI i) (rX10_sumOf told s (nI i) sz)), (u0 + 1), (rX10_sumOf told s (nI i) sz), ((told 1) - (rX10_sumOf told s (nI i) sz)))) else ((gup alone (nI i) (rX10_sumOf told s (nI i) sz)), (u0 + 1), u1, u2))) else ((gup alone (nI i) (rX10_sumOf told s (nI i) sz)), (u0 + 0), u1, u2))) else (if (told 1) ≤ (rX10_sumOf told s (nI i) sz) then (if (gWh (fX10_sums_82 (gup alone (nI i) (rX10_sumOf told s (nI i) sz)) i) (i - 1) 1 true) = true then (if ((rX10_sumOf told s (nI i) sz) - (told 1)) < u2 then ((gup alone (nI i) (rX10_sumOf told s (nI i) sz)), (u0 + 1), (rX10_sumOf told s (nI i) sz), ((rX10_sumOf told s (nI i) sz) - (told 1))) else (if ((rX10_sumOf told s (nI i) sz) - (told 1)) = u2 then (if u1 ≤ (rX10_sumOf told s (nI i) sz) then ((gup alone (nI i) (rX10_sumOf told s (nI i) sz)), (u0 + 1), u1, u2) else ((gup alone (nI i) (rX10_sumOf told s (nI i) sz)), (u0 + 1), (rX10_sumOf told s (nI i) sz), ((rX10_sumOf told s (nI i) sz) - (told 1)))) else ((gup alone (nI i) (rX10_sumOf told s (nI i) sz)), (u0 + 1), u1, u2))) else ((gup alone (nI i) (rX10_sumOf told s (nI i) sz)), (u0 + 0), u1, u2)) else (if (gWh (fX10_sums_82 (gup alone (nI i) (rX10_sumOf told s (nI i) sz)) i) (i - 1) 1 true) = true then (if ((told 1) - (rX10_sumOf told s (nI i) sz)) < u2 then ((gup alone (nI i) (rX10_sumOf told s (nI i) sz)), (u0 + 1), (rX10_sumOf told s (nI i) sz), ((told 1) - (rX10_sumOf told s (nI i) sz))) else (if ((told 1) - (rX10_sumOf told s (nI i) sz)) = u2 then (if u1 ≤ (rX10_sumOf told s (nI i) sz) then ((gup alone (nI i) (rX10_sumOf told s (nI i) sz)), (u0 + 1), u1, u2) else ((gup alone (nI i) (rX10_sumOf told s (nI i) sz)), (u0 + 1), (rX10_sumOf told s (nI i) sz), ((told 1) - (rX10_sumOf told s (nI i) sz)))) else ((gup alone (nI i) (rX10_sumOf told s (nI i) sz)), (u0 + 1), u1, u2))) else ((gup alone (nI i) (rX10_sumOf told s (nI i) sz)), (u0 + 0), u1, u2)))) else (if (told 1) ≤ (-1) then (if (gWh (fX10_sums_82 (gup alone (nI i) (-1)) i) (i - 1) 1 false) = true then (if ((-1) - (told 1)) < u2 then ((gup alone (nI i) (-1)), (u0 + 1), (-1), ((-1) - (told 1))) else (if ((-1) - (told 1)) = u2 then (if u1 ≤ (-1) then ((gup alone (nI i) (-1)), (u0 + 1), u1, u2) else ((gup alone (nI i) (-1)), (u0 + 1), (-1), ((-1) - (told 1)))) else ((gup alone (nI i) (-1)), (u0 + 1), u1, u2))) else ((gup alone (nI i) (-1)), (u0 + 0), u1, u2)) else (if (gWh (fX10_sums_82 (gup alone (nI i) (-1)) i) (i - 1) 1 false) = true then (if ((told 1) - (-1)) < u2 then ((gup alone (nI i) (-1)), (u0 + 1), (-1), ((told 1) - (-1))) else (if ((told 1) - (-1)) = u2 then (if u1 ≤ (-1) then ((gup alone (nI i) (-1)), (u0 + 1), u1, u2) else ((gup alone (nI i) (-1)), (u0 + 1), (-1), ((told 1) - (-1)))) else ((gup alone (nI i) (-1)), (u0 + 1), u1, u2))) else ((gup alone (nI i) (-1)), (u0 + 0), u1, u2))))
set_option maxRecDepth 100000 in
set_option maxHeartbeats 4000000 in
theorem LX10_sums_30 {w : gW} {al : Bool} {typed known kept noted at_ : Int32} {text told draft s past images notes parts held : Int32 → Int32} {n : Nat} {P : gP} {sz : Nat} {what : Int32} {t : Nat} (hsz : told 0 = nI sz) (hs : sz ≤ 9) (ht : t < 512)  : ∀ (d i : Nat) (alone : Int32 → Int32) (u0 : Int32) (u1 : Int32) (u2 : Int32), i + d = t + 1 → 1 ≤ i → G w gT0 al n mX10_sums 0 0 P 0 0 (hM text typed told draft s past known images kept notes noted at_ ((gLp (fX10_sums_30 told s t sz) d i (alone, u0, u1, u2)).1) parts held) 263 [.ref 0, .int what, .int (nI t), .int ((gLp (fX10_sums_30 told s t sz) d i (alone, u0, u1, u2)).2.1), .int ((gLp (fX10_sums_30 told s t sz) d i (alone, u0, u1, u2)).2.2.1), .int ((gLp (fX10_sums_30 told s t sz) d i (alone, u0, u1, u2)).2.2.2), .int (nI (t + 1)), gF, gF, gF] [] → G w gT0 al n mX10_sums 0 0 P 0 0 (hM text typed told draft s past known images kept notes noted at_ alone parts held) 30 [.ref 0, .int what, .int (nI t), .int u0, .int u1, .int u2, .int (nI i), gF, gF, gF] []
  | 0, i, alone, u0, u1, u2, hi, hinv, k => by
    have hN : i = t + 1 := by omega
    rw [hN]
    rw [hN] at k
    refine g_iload dX10_sums_30 32 rfl rfl ?_
    refine g_iload_n dX10_sums_32 rfl 33 rfl rfl ?_
    refine g_icmp_gt dX10_sums_33 263 rfl 36 rfl (fun _ => ?_) (fun c => absurd (nI_lt (by omega) (by omega)) c)
    exact k
  | d + 1, i, alone, u0, u1, u2, hi, hinv, k => by
    refine g_iload dX10_sums_30 32 rfl rfl ?_
    refine g_iload_n dX10_sums_32 rfl 33 rfl rfl ?_
    refine g_icmp_gt dX10_sums_33 263 rfl 36 rfl (fun c => absurd c (nI_nlt (by omega) (by omega))) (fun _ => ?_)
    refine g_aload_n dX10_sums_36 rfl 37 rfl rfl ?_
    refine g_get (v := .ref 8) dX10_sums_37 40 rfl lX10_31 rfl rfl ?_
    refine g_iload dX10_sums_40 42 rfl rfl ?_
    refine g_iload dX10_sums_42 44 rfl rfl ?_
    refine g_iload_n dX10_sums_44 rfl 45 rfl rfl ?_
    refine g_iconst (-1) dX10_sums_45 46 rfl (by decide) ?_
    refine g_ixor dX10_sums_46 47 rfl ?_
    refine g_iand dX10_sums_47 48 rfl ?_
    refine g_if_ne dX10_sums_48 60 rfl 51 rfl (fun c1 => ?_) (fun c1 => ?_)
    · refine g_iconst (-1) dX10_sums_60 61 rfl (by decide) ?_
      refine g_iastore (N := 512) dX10_sums_61 62 rfl rfl (by decide) (vp_in_nI (by omega) (by decide)) (h' := (hM text typed told draft s past known images kept notes noted at_ (gup alone (nI i) (-1)) parts held)) rfl ?_
      refine g_aload_n dX10_sums_62 rfl 63 rfl rfl ?_
      refine g_get (v := .ref 8) dX10_sums_63 66 rfl lX10_31 rfl rfl ?_
      refine g_iload dX10_sums_66 68 rfl rfl ?_
      refine g_iaload' (N := 512) dX10_sums_68 69 rfl rfl (vp_in_nI (by omega) (by decide)) (-1) gup_s ?_
      refine g_if_lt dX10_sums_69 76 rfl 72 rfl (fun _ => ?_) (fun c => absurd (by decide) c)
      refine g_iconst 0 dX10_sums_76 77 rfl (by decide) ?_
      refine g_istore7 dX10_sums_77 79 rfl (by decide) rfl ?_
      refine g_iconst 1 dX10_sums_79 80 rfl (by decide) ?_
      refine g_istore8 dX10_sums_80 82 rfl (by decide) rfl ?_
      refine LX10_sums_82 (by omega) (i - 1) 1 false (by omega) ?_
      refine g_aload_n dX10_sums_124 rfl 125 rfl rfl ?_
      refine g_get (v := .ref 8) dX10_sums_125 128 rfl lX10_31 rfl rfl ?_
      refine g_iload dX10_sums_128 130 rfl rfl ?_
      refine g_iaload' (N := 512) dX10_sums_130 131 rfl rfl (vp_in_nI (by omega) (by decide)) (-1) gup_s ?_
      refine g_aload_n dX10_sums_131 rfl 132 rfl rfl ?_
      refine g_get (v := .ref 2) dX10_sums_132 135 rfl lX10_13 rfl rfl ?_
      refine g_iconst 1 dX10_sums_135 136 rfl (by decide) ?_
      refine g_iaload (N := 40) dX10_sums_136 137 rfl rfl (vp_in_iff.mpr (by decide)) ?_
      refine g_icmp_ge dX10_sums_137 157 rfl 140 rfl (fun c21 => ?_) (fun c21 => ?_)
      · refine g_aload_n dX10_sums_157 rfl 158 rfl rfl ?_
        refine g_get (v := .ref 8) dX10_sums_158 161 rfl lX10_31 rfl rfl ?_
        refine g_iload dX10_sums_161 163 rfl rfl ?_
        refine g_iaload' (N := 512) dX10_sums_163 164 rfl rfl (vp_in_nI (by omega) (by decide)) (-1) gup_s ?_
        refine g_aload_n dX10_sums_164 rfl 165 rfl rfl ?_
        refine g_get (v := .ref 2) dX10_sums_165 168 rfl lX10_13 rfl rfl ?_
        refine g_iconst 1 dX10_sums_168 169 rfl (by decide) ?_
        refine g_iaload (N := 40) dX10_sums_169 170 rfl rfl (vp_in_iff.mpr (by decide)) ?_
        refine g_isub dX10_sums_170 171 rfl ?_
        refine g_istore8 dX10_sums_171 173 rfl (by decide) rfl ?_
        refine g_iload dX10_sums_173 175 rfl rfl ?_
        refine g_if_eq dX10_sums_175 208 rfl 178 rfl (fun c22 => ?_) (fun c22 => ?_)
        · replace c22 := gB_f c22
          refine g_iconst 0 dX10_sums_208 209 rfl (by decide) ?_
          refine g_istore9 dX10_sums_209 211 rfl (by decide) rfl ?_
          refine g_iload_n dX10_sums_211 rfl 212 rfl rfl ?_
          refine g_iload dX10_sums_212 214 rfl rfl ?_
          refine g_if_eq dX10_sums_214 221 rfl 217 rfl (fun _ => ?_) (fun c => absurd (gB_0 c22) c)
          refine g_iconst 0 dX10_sums_221 222 rfl (by decide) ?_
          refine g_iadd dX10_sums_222 223 rfl ?_
          refine g_istore3 dX10_sums_223 224 rfl (by decide) rfl ?_
          refine g_iload dX10_sums_224 226 rfl rfl ?_
          refine g_if_eq dX10_sums_226 239 rfl 229 rfl (fun _ => ?_) (fun c => absurd (by decide) c)
          refine g_iload dX10_sums_239 241 rfl rfl ?_
          refine g_istore4 dX10_sums_241 243 rfl (by decide) rfl ?_
          refine g_iload dX10_sums_243 245 rfl rfl ?_
          refine g_if_eq dX10_sums_245 253 rfl 248 rfl (fun _ => ?_) (fun c => absurd (by decide) c)
          refine g_iload dX10_sums_253 255 rfl rfl ?_
          refine g_istore5 dX10_sums_255 257 rfl (by decide) rfl ?_
          refine g_iinc6 dX10_sums_257 260 rfl 1 (by decide) (nI (i + 1)) (nI_add _ 1) (by decide) rfl ?_
          refine g_goto dX10_sums_260 30 rfl ?_
          refine g_fgt (L' := [.ref 0, .int what, .int (nI t), .int (u0 + 0), .int u1, .int u2, .int (nI (i + 1)), gF, gF, gF]) ⟨Or.inl rfl, Or.inl rfl, Or.inl rfl, Or.inl rfl, Or.inl rfl, Or.inl rfl, Or.inl rfl, Or.inr rfl, Or.inr rfl, Or.inr rfl, trivial⟩ ?_
          have e : (fX10_sums_30 told s t sz) i (alone, u0, u1, u2) = ((gup alone (nI i) (-1)), (u0 + 0), u1, u2) := by rw [fX10_sums_30, if_neg c1, if_pos c21, if_neg c22]
          refine LX10_sums_30 hsz hs ht d (i + 1) (gup alone (nI i) (-1)) (u0 + 0) u1 u2 (by omega) (by omega) ?_
          rw [← e]
          exact k
        · replace c22 := gB_t c22
          refine g_iload dX10_sums_178 180 rfl rfl ?_
          refine g_iload dX10_sums_180 182 rfl rfl ?_
          refine g_icmp_lt dX10_sums_182 204 rfl 185 rfl (fun c23 => ?_) (fun c23 => ?_)
          · refine g_iconst 1 dX10_sums_204 205 rfl (by decide) ?_
            refine g_goto dX10_sums_205 209 rfl ?_
            refine g_istore9 dX10_sums_209 211 rfl (by decide) rfl ?_
            refine g_iload_n dX10_sums_211 rfl 212 rfl rfl ?_
            refine g_iload dX10_sums_212 214 rfl rfl ?_
            refine g_if_eq dX10_sums_214 221 rfl 217 rfl (fun c => absurd c (gB_1 c22)) (fun _ => ?_)
            refine g_iconst 1 dX10_sums_217 218 rfl (by decide) ?_
            refine g_goto dX10_sums_218 222 rfl ?_
            refine g_iadd dX10_sums_222 223 rfl ?_
            refine g_istore3 dX10_sums_223 224 rfl (by decide) rfl ?_
            refine g_iload dX10_sums_224 226 rfl rfl ?_
            refine g_if_eq dX10_sums_226 239 rfl 229 rfl (fun c => absurd c (by decide)) (fun _ => ?_)
            refine g_aload_n dX10_sums_229 rfl 230 rfl rfl ?_
            refine g_get (v := .ref 8) dX10_sums_230 233 rfl lX10_31 rfl rfl ?_
            refine g_iload dX10_sums_233 235 rfl rfl ?_
            refine g_iaload' (N := 512) dX10_sums_235 236 rfl rfl (vp_in_nI (by omega) (by decide)) (-1) gup_s ?_
            refine g_goto dX10_sums_236 241 rfl ?_
            refine g_istore4 dX10_sums_241 243 rfl (by decide) rfl ?_
            refine g_iload dX10_sums_243 245 rfl rfl ?_
            refine g_if_eq dX10_sums_245 253 rfl 248 rfl (fun c => absurd c (by decide)) (fun _ => ?_)
            refine g_iload dX10_sums_248 250 rfl rfl ?_
            refine g_goto dX10_sums_250 255 rfl ?_
            refine g_istore5 dX10_sums_255 257 rfl (by decide) rfl ?_
            refine g_iinc6 dX10_sums_257 260 rfl 1 (by decide) (nI (i + 1)) (nI_add _ 1) (by decide) rfl ?_
            refine g_goto dX10_sums_260 30 rfl ?_
            refine g_fgt (L' := [.ref 0, .int what, .int (nI t), .int (u0 + 1), .int (-1), .int ((-1) - (told 1)), .int (nI (i + 1)), gF, gF, gF]) ⟨Or.inl rfl, Or.inl rfl, Or.inl rfl, Or.inl rfl, Or.inl rfl, Or.inl rfl, Or.inl rfl, Or.inr rfl, Or.inr rfl, Or.inr rfl, trivial⟩ ?_
            have e : (fX10_sums_30 told s t sz) i (alone, u0, u1, u2) = ((gup alone (nI i) (-1)), (u0 + 1), (-1), ((-1) - (told 1))) := by rw [fX10_sums_30, if_neg c1, if_pos c21, if_pos c22, if_pos c23]
            refine LX10_sums_30 hsz hs ht d (i + 1) (gup alone (nI i) (-1)) (u0 + 1) (-1) ((-1) - (told 1)) (by omega) (by omega) ?_
            rw [← e]
            exact k
          · refine g_iload dX10_sums_185 187 rfl rfl ?_
            refine g_iload dX10_sums_187 189 rfl rfl ?_
            refine g_icmp_ne dX10_sums_189 208 rfl 192 rfl (fun c24 => ?_) (fun c24 => ?_)
            · refine g_iconst 0 dX10_sums_208 209 rfl (by decide) ?_
              refine g_istore9 dX10_sums_209 211 rfl (by decide) rfl ?_
              refine g_iload_n dX10_sums_211 rfl 212 rfl rfl ?_
              refine g_iload dX10_sums_212 214 rfl rfl ?_
              refine g_if_eq dX10_sums_214 221 rfl 217 rfl (fun c => absurd c (gB_1 c22)) (fun _ => ?_)
              refine g_iconst 1 dX10_sums_217 218 rfl (by decide) ?_
              refine g_goto dX10_sums_218 222 rfl ?_
              refine g_iadd dX10_sums_222 223 rfl ?_
              refine g_istore3 dX10_sums_223 224 rfl (by decide) rfl ?_
              refine g_iload dX10_sums_224 226 rfl rfl ?_
              refine g_if_eq dX10_sums_226 239 rfl 229 rfl (fun _ => ?_) (fun c => absurd (by decide) c)
              refine g_iload dX10_sums_239 241 rfl rfl ?_
              refine g_istore4 dX10_sums_241 243 rfl (by decide) rfl ?_
              refine g_iload dX10_sums_243 245 rfl rfl ?_
              refine g_if_eq dX10_sums_245 253 rfl 248 rfl (fun _ => ?_) (fun c => absurd (by decide) c)
              refine g_iload dX10_sums_253 255 rfl rfl ?_
              refine g_istore5 dX10_sums_255 257 rfl (by decide) rfl ?_
              refine g_iinc6 dX10_sums_257 260 rfl 1 (by decide) (nI (i + 1)) (nI_add _ 1) (by decide) rfl ?_
              refine g_goto dX10_sums_260 30 rfl ?_
              refine g_fgt (L' := [.ref 0, .int what, .int (nI t), .int (u0 + 1), .int u1, .int u2, .int (nI (i + 1)), gF, gF, gF]) ⟨Or.inl rfl, Or.inl rfl, Or.inl rfl, Or.inl rfl, Or.inl rfl, Or.inl rfl, Or.inl rfl, Or.inr rfl, Or.inr rfl, Or.inr rfl, trivial⟩ ?_
              have e : (fX10_sums_30 told s t sz) i (alone, u0, u1, u2) = ((gup alone (nI i) (-1)), (u0 + 1), u1, u2) := by rw [fX10_sums_30, if_neg c1, if_pos c21, if_pos c22, if_neg c23, if_neg c24]
              refine LX10_sums_30 hsz hs ht d (i + 1) (gup alone (nI i) (-1)) (u0 + 1) u1 u2 (by omega) (by omega) ?_
              rw [← e]
              exact k
            · refine g_aload_n dX10_sums_192 rfl 193 rfl rfl ?_
              refine g_get (v := .ref 8) dX10_sums_193 196 rfl lX10_31 rfl rfl ?_
              refine g_iload dX10_sums_196 198 rfl rfl ?_
              refine g_iaload' (N := 512) dX10_sums_198 199 rfl rfl (vp_in_nI (by omega) (by decide)) (-1) gup_s ?_
              refine g_iload dX10_sums_199 201 rfl rfl ?_
              refine g_icmp_ge dX10_sums_201 208 rfl 204 rfl (fun c25 => ?_) (fun c25 => ?_)
              · refine g_iconst 0 dX10_sums_208 209 rfl (by decide) ?_
                refine g_istore9 dX10_sums_209 211 rfl (by decide) rfl ?_
                refine g_iload_n dX10_sums_211 rfl 212 rfl rfl ?_
                refine g_iload dX10_sums_212 214 rfl rfl ?_
                refine g_if_eq dX10_sums_214 221 rfl 217 rfl (fun c => absurd c (gB_1 c22)) (fun _ => ?_)
                refine g_iconst 1 dX10_sums_217 218 rfl (by decide) ?_
                refine g_goto dX10_sums_218 222 rfl ?_
                refine g_iadd dX10_sums_222 223 rfl ?_
                refine g_istore3 dX10_sums_223 224 rfl (by decide) rfl ?_
                refine g_iload dX10_sums_224 226 rfl rfl ?_
                refine g_if_eq dX10_sums_226 239 rfl 229 rfl (fun _ => ?_) (fun c => absurd (by decide) c)
                refine g_iload dX10_sums_239 241 rfl rfl ?_
                refine g_istore4 dX10_sums_241 243 rfl (by decide) rfl ?_
                refine g_iload dX10_sums_243 245 rfl rfl ?_
                refine g_if_eq dX10_sums_245 253 rfl 248 rfl (fun _ => ?_) (fun c => absurd (by decide) c)
                refine g_iload dX10_sums_253 255 rfl rfl ?_
                refine g_istore5 dX10_sums_255 257 rfl (by decide) rfl ?_
                refine g_iinc6 dX10_sums_257 260 rfl 1 (by decide) (nI (i + 1)) (nI_add _ 1) (by decide) rfl ?_
                refine g_goto dX10_sums_260 30 rfl ?_
                refine g_fgt (L' := [.ref 0, .int what, .int (nI t), .int (u0 + 1), .int u1, .int u2, .int (nI (i + 1)), gF, gF, gF]) ⟨Or.inl rfl, Or.inl rfl, Or.inl rfl, Or.inl rfl, Or.inl rfl, Or.inl rfl, Or.inl rfl, Or.inr rfl, Or.inr rfl, Or.inr rfl, trivial⟩ ?_
                have e : (fX10_sums_30 told s t sz) i (alone, u0, u1, u2) = ((gup alone (nI i) (-1)), (u0 + 1), u1, u2) := by rw [fX10_sums_30, if_neg c1, if_pos c21, if_pos c22, if_neg c23, if_pos c24, if_pos c25]
                refine LX10_sums_30 hsz hs ht d (i + 1) (gup alone (nI i) (-1)) (u0 + 1) u1 u2 (by omega) (by omega) ?_
                rw [← e]
                exact k
              · refine g_iconst 1 dX10_sums_204 205 rfl (by decide) ?_
                refine g_goto dX10_sums_205 209 rfl ?_
                refine g_istore9 dX10_sums_209 211 rfl (by decide) rfl ?_
                refine g_iload_n dX10_sums_211 rfl 212 rfl rfl ?_
                refine g_iload dX10_sums_212 214 rfl rfl ?_
                refine g_if_eq dX10_sums_214 221 rfl 217 rfl (fun c => absurd c (gB_1 c22)) (fun _ => ?_)
                refine g_iconst 1 dX10_sums_217 218 rfl (by decide) ?_
                refine g_goto dX10_sums_218 222 rfl ?_
                refine g_iadd dX10_sums_222 223 rfl ?_
                refine g_istore3 dX10_sums_223 224 rfl (by decide) rfl ?_
                refine g_iload dX10_sums_224 226 rfl rfl ?_
                refine g_if_eq dX10_sums_226 239 rfl 229 rfl (fun c => absurd c (by decide)) (fun _ => ?_)
                refine g_aload_n dX10_sums_229 rfl 230 rfl rfl ?_
                refine g_get (v := .ref 8) dX10_sums_230 233 rfl lX10_31 rfl rfl ?_
                refine g_iload dX10_sums_233 235 rfl rfl ?_
                refine g_iaload' (N := 512) dX10_sums_235 236 rfl rfl (vp_in_nI (by omega) (by decide)) (-1) gup_s ?_
                refine g_goto dX10_sums_236 241 rfl ?_
                refine g_istore4 dX10_sums_241 243 rfl (by decide) rfl ?_
                refine g_iload dX10_sums_243 245 rfl rfl ?_
                refine g_if_eq dX10_sums_245 253 rfl 248 rfl (fun c => absurd c (by decide)) (fun _ => ?_)
                refine g_iload dX10_sums_248 250 rfl rfl ?_
                refine g_goto dX10_sums_250 255 rfl ?_
                refine g_istore5 dX10_sums_255 257 rfl (by decide) rfl ?_
                refine g_iinc6 dX10_sums_257 260 rfl 1 (by decide) (nI (i + 1)) (nI_add _ 1) (by decide) rfl ?_
                refine g_goto dX10_sums_260 30 rfl ?_
                refine g_fgt (L' := [.ref 0, .int what, .int (nI t), .int (u0 + 1), .int (-1), .int ((-1) - (told 1)), .int (nI (i + 1)), gF, gF, gF]) ⟨Or.inl rfl, Or.inl rfl, Or.inl rfl, Or.inl rfl, Or.inl rfl, Or.inl rfl, Or.inl rfl, Or.inr rfl, Or.inr rfl, Or.inr rfl, trivial⟩ ?_
                have e : (fX10_sums_30 told s t sz) i (alone, u0, u1, u2) = ((gup alone (nI i) (-1)), (u0 + 1), (-1), ((-1) - (told 1))) := by rw [fX10_sums_30, if_neg c1, if_pos c21, if_pos c22, if_neg c23, if_pos c24, if_neg c25]
                refine LX10_sums_30 hsz hs ht d (i + 1) (gup alone (nI i) (-1)) (u0 + 1) (-1) ((-1) - (told 1)) (by omega) (by omega) ?_
                rw [← e]
                exact k
      · refine g_aload_n dX10_sums_140 rfl 141 rfl rfl ?_
        refine g_get (v := .ref 2) dX10_sums_141 144 rfl lX10_13 rfl rfl ?_
        refine g_iconst 1 dX10_sums_144 145 rfl (by decide) ?_
        refine g_iaload (N := 40) dX10_sums_145 146 rfl rfl (vp_in_iff.mpr (by decide)) ?_
        refine g_aload_n dX10_sums_146 rfl 147 rfl rfl ?_
        refine g_get (v := .ref 8) dX10_sums_147 150 rfl lX10_31 rfl rfl ?_
        refine g_iload dX10_sums_150 152 rfl rfl ?_
        refine g_iaload' (N := 512) dX10_sums_152 153 rfl rfl (vp_in_nI (by omega) (by decide)) (-1) gup_s ?_
        refine g_isub dX10_sums_153 154 rfl ?_
        refine g_goto dX10_sums_154 171 rfl ?_
        refine g_istore8 dX10_sums_171 173 rfl (by decide) rfl ?_
        refine g_iload dX10_sums_173 175 rfl rfl ?_
        refine g_if_eq dX10_sums_175 208 rfl 178 rfl (fun c26 => ?_) (fun c26 => ?_)
        · replace c26 := gB_f c26
          refine g_iconst 0 dX10_sums_208 209 rfl (by decide) ?_
          refine g_istore9 dX10_sums_209 211 rfl (by decide) rfl ?_
          refine g_iload_n dX10_sums_211 rfl 212 rfl rfl ?_
          refine g_iload dX10_sums_212 214 rfl rfl ?_
          refine g_if_eq dX10_sums_214 221 rfl 217 rfl (fun _ => ?_) (fun c => absurd (gB_0 c26) c)
          refine g_iconst 0 dX10_sums_221 222 rfl (by decide) ?_
          refine g_iadd dX10_sums_222 223 rfl ?_
          refine g_istore3 dX10_sums_223 224 rfl (by decide) rfl ?_
          refine g_iload dX10_sums_224 226 rfl rfl ?_
          refine g_if_eq dX10_sums_226 239 rfl 229 rfl (fun _ => ?_) (fun c => absurd (by decide) c)
          refine g_iload dX10_sums_239 241 rfl rfl ?_
          refine g_istore4 dX10_sums_241 243 rfl (by decide) rfl ?_
          refine g_iload dX10_sums_243 245 rfl rfl ?_
          refine g_if_eq dX10_sums_245 253 rfl 248 rfl (fun _ => ?_) (fun c => absurd (by decide) c)
          refine g_iload dX10_sums_253 255 rfl rfl ?_
          refine g_istore5 dX10_sums_255 257 rfl (by decide) rfl ?_
          refine g_iinc6 dX10_sums_257 260 rfl 1 (by decide) (nI (i + 1)) (nI_add _ 1) (by decide) rfl ?_
          refine g_goto dX10_sums_260 30 rfl ?_
          refine g_fgt (L' := [.ref 0, .int what, .int (nI t), .int (u0 + 0), .int u1, .int u2, .int (nI (i + 1)), gF, gF, gF]) ⟨Or.inl rfl, Or.inl rfl, Or.inl rfl, Or.inl rfl, Or.inl rfl, Or.inl rfl, Or.inl rfl, Or.inr rfl, Or.inr rfl, Or.inr rfl, trivial⟩ ?_
          have e : (fX10_sums_30 told s t sz) i (alone, u0, u1, u2) = ((gup alone (nI i) (-1)), (u0 + 0), u1, u2) := by rw [fX10_sums_30, if_neg c1, if_neg c21, if_neg c26]
          refine LX10_sums_30 hsz hs ht d (i + 1) (gup alone (nI i) (-1)) (u0 + 0) u1 u2 (by omega) (by omega) ?_
          rw [← e]
          exact k
        · replace c26 := gB_t c26
          refine g_iload dX10_sums_178 180 rfl rfl ?_
          refine g_iload dX10_sums_180 182 rfl rfl ?_
          refine g_icmp_lt dX10_sums_182 204 rfl 185 rfl (fun c27 => ?_) (fun c27 => ?_)
          · refine g_iconst 1 dX10_sums_204 205 rfl (by decide) ?_
            refine g_goto dX10_sums_205 209 rfl ?_
            refine g_istore9 dX10_sums_209 211 rfl (by decide) rfl ?_
            refine g_iload_n dX10_sums_211 rfl 212 rfl rfl ?_
            refine g_iload dX10_sums_212 214 rfl rfl ?_
            refine g_if_eq dX10_sums_214 221 rfl 217 rfl (fun c => absurd c (gB_1 c26)) (fun _ => ?_)
            refine g_iconst 1 dX10_sums_217 218 rfl (by decide) ?_
            refine g_goto dX10_sums_218 222 rfl ?_
            refine g_iadd dX10_sums_222 223 rfl ?_
            refine g_istore3 dX10_sums_223 224 rfl (by decide) rfl ?_
            refine g_iload dX10_sums_224 226 rfl rfl ?_
            refine g_if_eq dX10_sums_226 239 rfl 229 rfl (fun c => absurd c (by decide)) (fun _ => ?_)
            refine g_aload_n dX10_sums_229 rfl 230 rfl rfl ?_
            refine g_get (v := .ref 8) dX10_sums_230 233 rfl lX10_31 rfl rfl ?_
            refine g_iload dX10_sums_233 235 rfl rfl ?_
            refine g_iaload' (N := 512) dX10_sums_235 236 rfl rfl (vp_in_nI (by omega) (by decide)) (-1) gup_s ?_
            refine g_goto dX10_sums_236 241 rfl ?_
            refine g_istore4 dX10_sums_241 243 rfl (by decide) rfl ?_
            refine g_iload dX10_sums_243 245 rfl rfl ?_
            refine g_if_eq dX10_sums_245 253 rfl 248 rfl (fun c => absurd c (by decide)) (fun _ => ?_)
            refine g_iload dX10_sums_248 250 rfl rfl ?_
            refine g_goto dX10_sums_250 255 rfl ?_
            refine g_istore5 dX10_sums_255 257 rfl (by decide) rfl ?_
            refine g_iinc6 dX10_sums_257 260 rfl 1 (by decide) (nI (i + 1)) (nI_add _ 1) (by decide) rfl ?_
            refine g_goto dX10_sums_260 30 rfl ?_
            refine g_fgt (L' := [.ref 0, .int what, .int (nI t), .int (u0 + 1), .int (-1), .int ((told 1) - (-1)), .int (nI (i + 1)), gF, gF, gF]) ⟨Or.inl rfl, Or.inl rfl, Or.inl rfl, Or.inl rfl, Or.inl rfl, Or.inl rfl, Or.inl rfl, Or.inr rfl, Or.inr rfl, Or.inr rfl, trivial⟩ ?_
            have e : (fX10_sums_30 told s t sz) i (alone, u0, u1, u2) = ((gup alone (nI i) (-1)), (u0 + 1), (-1), ((told 1) - (-1))) := by rw [fX10_sums_30, if_neg c1, if_neg c21, if_pos c26, if_pos c27]
            refine LX10_sums_30 hsz hs ht d (i + 1) (gup alone (nI i) (-1)) (u0 + 1) (-1) ((told 1) - (-1)) (by omega) (by omega) ?_
            rw [← e]
            exact k
          · refine g_iload dX10_sums_185 187 rfl rfl ?_
            refine g_iload dX10_sums_187 189 rfl rfl ?_
            refine g_icmp_ne dX10_sums_189 208 rfl 192 rfl (fun c28 => ?_) (fun c28 => ?_)
            · refine g_iconst 0 dX10_sums_208 209 rfl (by decide) ?_
              refine g_istore9 dX10_sums_209 211 rfl (by decide) rfl ?_
              refine g_iload_n dX10_sums_211 rfl 212 rfl rfl ?_
              refine g_iload dX10_sums_212 214 rfl rfl ?_
              refine g_if_eq dX10_sums_214 221 rfl 217 rfl (fun c => absurd c (gB_1 c26)) (fun _ => ?_)
              refine g_iconst 1 dX10_sums_217 218 rfl (by decide) ?_
              refine g_goto dX10_sums_218 222 rfl ?_
              refine g_iadd dX10_sums_222 223 rfl ?_
              refine g_istore3 dX10_sums_223 224 rfl (by decide) rfl ?_
              refine g_iload dX10_sums_224 226 rfl rfl ?_
              refine g_if_eq dX10_sums_226 239 rfl 229 rfl (fun _ => ?_) (fun c => absurd (by decide) c)
              refine g_iload dX10_sums_239 241 rfl rfl ?_
              refine g_istore4 dX10_sums_241 243 rfl (by decide) rfl ?_
              refine g_iload dX10_sums_243 245 rfl rfl ?_
              refine g_if_eq dX10_sums_245 253 rfl 248 rfl (fun _ => ?_) (fun c => absurd (by decide) c)
              refine g_iload dX10_sums_253 255 rfl rfl ?_
              refine g_istore5 dX10_sums_255 257 rfl (by decide) rfl ?_
              refine g_iinc6 dX10_sums_257 260 rfl 1 (by decide) (nI (i + 1)) (nI_add _ 1) (by decide) rfl ?_
              refine g_goto dX10_sums_260 30 rfl ?_
              refine g_fgt (L' := [.ref 0, .int what, .int (nI t), .int (u0 + 1), .int u1, .int u2, .int (nI (i + 1)), gF, gF, gF]) ⟨Or.inl rfl, Or.inl rfl, Or.inl rfl, Or.inl rfl, Or.inl rfl, Or.inl rfl, Or.inl rfl, Or.inr rfl, Or.inr rfl, Or.inr rfl, trivial⟩ ?_
              have e : (fX10_sums_30 told s t sz) i (alone, u0, u1, u2) = ((gup alone (nI i) (-1)), (u0 + 1), u1, u2) := by rw [fX10_sums_30, if_neg c1, if_neg c21, if_pos c26, if_neg c27, if_neg c28]
              refine LX10_sums_30 hsz hs ht d (i + 1) (gup alone (nI i) (-1)) (u0 + 1) u1 u2 (by omega) (by omega) ?_
              rw [← e]
              exact k
            · refine g_aload_n dX10_sums_192 rfl 193 rfl rfl ?_
              refine g_get (v := .ref 8) dX10_sums_193 196 rfl lX10_31 rfl rfl ?_
              refine g_iload dX10_sums_196 198 rfl rfl ?_
              refine g_iaload' (N := 512) dX10_sums_198 199 rfl rfl (vp_in_nI (by omega) (by decide)) (-1) gup_s ?_
              refine g_iload dX10_sums_199 201 rfl rfl ?_
              refine g_icmp_ge dX10_sums_201 208 rfl 204 rfl (fun c29 => ?_) (fun c29 => ?_)
              · refine g_iconst 0 dX10_sums_208 209 rfl (by decide) ?_
                refine g_istore9 dX10_sums_209 211 rfl (by decide) rfl ?_
                refine g_iload_n dX10_sums_211 rfl 212 rfl rfl ?_
                refine g_iload dX10_sums_212 214 rfl rfl ?_
                refine g_if_eq dX10_sums_214 221 rfl 217 rfl (fun c => absurd c (gB_1 c26)) (fun _ => ?_)
                refine g_iconst 1 dX10_sums_217 218 rfl (by decide) ?_
                refine g_goto dX10_sums_218 222 rfl ?_
                refine g_iadd dX10_sums_222 223 rfl ?_
                refine g_istore3 dX10_sums_223 224 rfl (by decide) rfl ?_
                refine g_iload dX10_sums_224 226 rfl rfl ?_
                refine g_if_eq dX10_sums_226 239 rfl 229 rfl (fun _ => ?_) (fun c => absurd (by decide) c)
                refine g_iload dX10_sums_239 241 rfl rfl ?_
                refine g_istore4 dX10_sums_241 243 rfl (by decide) rfl ?_
                refine g_iload dX10_sums_243 245 rfl rfl ?_
                refine g_if_eq dX10_sums_245 253 rfl 248 rfl (fun _ => ?_) (fun c => absurd (by decide) c)
                refine g_iload dX10_sums_253 255 rfl rfl ?_
                refine g_istore5 dX10_sums_255 257 rfl (by decide) rfl ?_
                refine g_iinc6 dX10_sums_257 260 rfl 1 (by decide) (nI (i + 1)) (nI_add _ 1) (by decide) rfl ?_
                refine g_goto dX10_sums_260 30 rfl ?_
                refine g_fgt (L' := [.ref 0, .int what, .int (nI t), .int (u0 + 1), .int u1, .int u2, .int (nI (i + 1)), gF, gF, gF]) ⟨Or.inl rfl, Or.inl rfl, Or.inl rfl, Or.inl rfl, Or.inl rfl, Or.inl rfl, Or.inl rfl, Or.inr rfl, Or.inr rfl, Or.inr rfl, trivial⟩ ?_
                have e : (fX10_sums_30 told s t sz) i (alone, u0, u1, u2) = ((gup alone (nI i) (-1)), (u0 + 1), u1, u2) := by rw [fX10_sums_30, if_neg c1, if_neg c21, if_pos c26, if_neg c27, if_pos c28, if_pos c29]
                refine LX10_sums_30 hsz hs ht d (i + 1) (gup alone (nI i) (-1)) (u0 + 1) u1 u2 (by omega) (by omega) ?_
                rw [← e]
                exact k
              · refine g_iconst 1 dX10_sums_204 205 rfl (by decide) ?_
                refine g_goto dX10_sums_205 209 rfl ?_
                refine g_istore9 dX10_sums_209 211 rfl (by decide) rfl ?_
                refine g_iload_n dX10_sums_211 rfl 212 rfl rfl ?_
                refine g_iload dX10_sums_212 214 rfl rfl ?_
                refine g_if_eq dX10_sums_214 221 rfl 217 rfl (fun c => absurd c (gB_1 c26)) (fun _ => ?_)
                refine g_iconst 1 dX10_sums_217 218 rfl (by decide) ?_
                refine g_goto dX10_sums_218 222 rfl ?_
                refine g_iadd dX10_sums_222 223 rfl ?_
                refine g_istore3 dX10_sums_223 224 rfl (by decide) rfl ?_
                refine g_iload dX10_sums_224 226 rfl rfl ?_
                refine g_if_eq dX10_sums_226 239 rfl 229 rfl (fun c => absurd c (by decide)) (fun _ => ?_)
                refine g_aload_n dX10_sums_229 rfl 230 rfl rfl ?_
                refine g_get (v := .ref 8) dX10_sums_230 233 rfl lX10_31 rfl rfl ?_
                refine g_iload dX10_sums_233 235 rfl rfl ?_
                refine g_iaload' (N := 512) dX10_sums_235 236 rfl rfl (vp_in_nI (by omega) (by decide)) (-1) gup_s ?_
                refine g_goto dX10_sums_236 241 rfl ?_
                refine g_istore4 dX10_sums_241 243 rfl (by decide) rfl ?_
                refine g_iload dX10_sums_243 245 rfl rfl ?_
                refine g_if_eq dX10_sums_245 253 rfl 248 rfl (fun c => absurd c (by decide)) (fun _ => ?_)
                refine g_iload dX10_sums_248 250 rfl rfl ?_
                refine g_goto dX10_sums_250 255 rfl ?_
                refine g_istore5 dX10_sums_255 257 rfl (by decide) rfl ?_
                refine g_iinc6 dX10_sums_257 260 rfl 1 (by decide) (nI (i + 1)) (nI_add _ 1) (by decide) rfl ?_
                refine g_goto dX10_sums_260 30 rfl ?_
                refine g_fgt (L' := [.ref 0, .int what, .int (nI t), .int (u0 + 1), .int (-1), .int ((told 1) - (-1)), .int (nI (i + 1)), gF, gF, gF]) ⟨Or.inl rfl, Or.inl rfl, Or.inl rfl, Or.inl rfl, Or.inl rfl, Or.inl rfl, Or.inl rfl, Or.inr rfl, Or.inr rfl, Or.inr rfl, trivial⟩ ?_
                have e : (fX10_sums_30 told s t sz) i (alone, u0, u1, u2) = ((gup alone (nI i) (-1)), (u0 + 1), (-1), ((told 1) - (-1))) := by rw [fX10_sums_30, if_neg c1, if_neg c21, if_pos c26, if_neg c27, if_pos c28, if_neg c29]
                refine LX10_sums_30 hsz hs ht d (i + 1) (gup alone (nI i) (-1)) (u0 + 1) (-1) ((told 1) - (-1)) (by omega) (by omega) ?_
                rw [← e]
                exact k
    · refine g_aload_n dX10_sums_51 rfl 52 rfl rfl ?_
      refine g_iload dX10_sums_52 54 rfl rfl ?_
      refine g_cVv (as := [.int (nI i)]) (st := [.int (nI i), .ref 8]) dX10_sums_54 57 rfl kX10_101 ⟨Nat.le_of_ble_eq_true rfl, Nat.le_of_ble_eq_true rfl⟩ (MX10_sumOf (nI i) hsz hs) rfl rfl rfl rfl (Nat.le_of_ble_eq_true rfl) (Nat.le_refl _) (Nat.le_refl _) ?_
      refine g_goto dX10_sums_57 61 rfl ?_
      refine g_iastore (N := 512) dX10_sums_61 62 rfl rfl (by decide) (vp_in_nI (by omega) (by decide)) (h' := (hM text typed told draft s past known images kept notes noted at_ (gup alone (nI i) (rX10_sumOf told s (nI i) sz)) parts held)) rfl ?_
      refine g_aload_n dX10_sums_62 rfl 63 rfl rfl ?_
      refine g_get (v := .ref 8) dX10_sums_63 66 rfl lX10_31 rfl rfl ?_
      refine g_iload dX10_sums_66 68 rfl rfl ?_
      refine g_iaload' (N := 512) dX10_sums_68 69 rfl rfl (vp_in_nI (by omega) (by decide)) (rX10_sumOf told s (nI i) sz) gup_s ?_
      refine g_if_lt dX10_sums_69 76 rfl 72 rfl (fun c2 => ?_) (fun c2 => ?_)
      · refine g_iconst 0 dX10_sums_76 77 rfl (by decide) ?_
        refine g_istore7 dX10_sums_77 79 rfl (by decide) rfl ?_
        refine g_iconst 1 dX10_sums_79 80 rfl (by decide) ?_
        refine g_istore8 dX10_sums_80 82 rfl (by decide) rfl ?_
        refine LX10_sums_82 (by omega) (i - 1) 1 false (by omega) ?_
        refine g_aload_n dX10_sums_124 rfl 125 rfl rfl ?_
        refine g_get (v := .ref 8) dX10_sums_125 128 rfl lX10_31 rfl rfl ?_
        refine g_iload dX10_sums_128 130 rfl rfl ?_
        refine g_iaload' (N := 512) dX10_sums_130 131 rfl rfl (vp_in_nI (by omega) (by decide)) (rX10_sumOf told s (nI i) sz) gup_s ?_
        refine g_aload_n dX10_sums_131 rfl 132 rfl rfl ?_
        refine g_get (v := .ref 2) dX10_sums_132 135 rfl lX10_13 rfl rfl ?_
        refine g_iconst 1 dX10_sums_135 136 rfl (by decide) ?_
        refine g_iaload (N := 40) dX10_sums_136 137 rfl rfl (vp_in_iff.mpr (by decide)) ?_
        refine g_icmp_ge dX10_sums_137 157 rfl 140 rfl (fun c3 => ?_) (fun c3 => ?_)
        · refine g_aload_n dX10_sums_157 rfl 158 rfl rfl ?_
          refine g_get (v := .ref 8) dX10_sums_158 161 rfl lX10_31 rfl rfl ?_
          refine g_iload dX10_sums_161 163 rfl rfl ?_
          refine g_iaload' (N := 512) dX10_sums_163 164 rfl rfl (vp_in_nI (by omega) (by decide)) (rX10_sumOf told s (nI i) sz) gup_s ?_
          refine g_aload_n dX10_sums_164 rfl 165 rfl rfl ?_
          refine g_get (v := .ref 2) dX10_sums_165 168 rfl lX10_13 rfl rfl ?_
          refine g_iconst 1 dX10_sums_168 169 rfl (by decide) ?_
          refine g_iaload (N := 40) dX10_sums_169 170 rfl rfl (vp_in_iff.mpr (by decide)) ?_
          refine g_isub dX10_sums_170 171 rfl ?_
          refine g_istore8 dX10_sums_171 173 rfl (by decide) rfl ?_
          refine g_iload dX10_sums_173 175 rfl rfl ?_
          refine g_if_eq dX10_sums_175 208 rfl 178 rfl (fun c4 => ?_) (fun c4 => ?_)
          · replace c4 := gB_f c4
            refine g_iconst 0 dX10_sums_208 209 rfl (by decide) ?_
            refine g_istore9 dX10_sums_209 211 rfl (by decide) rfl ?_
            refine g_iload_n dX10_sums_211 rfl 212 rfl rfl ?_
            refine g_iload dX10_sums_212 214 rfl rfl ?_
            refine g_if_eq dX10_sums_214 221 rfl 217 rfl (fun _ => ?_) (fun c => absurd (gB_0 c4) c)
            refine g_iconst 0 dX10_sums_221 222 rfl (by decide) ?_
            refine g_iadd dX10_sums_222 223 rfl ?_
            refine g_istore3 dX10_sums_223 224 rfl (by decide) rfl ?_
            refine g_iload dX10_sums_224 226 rfl rfl ?_
            refine g_if_eq dX10_sums_226 239 rfl 229 rfl (fun _ => ?_) (fun c => absurd (by decide) c)
            refine g_iload dX10_sums_239 241 rfl rfl ?_
            refine g_istore4 dX10_sums_241 243 rfl (by decide) rfl ?_
            refine g_iload dX10_sums_243 245 rfl rfl ?_
            refine g_if_eq dX10_sums_245 253 rfl 248 rfl (fun _ => ?_) (fun c => absurd (by decide) c)
            refine g_iload dX10_sums_253 255 rfl rfl ?_
            refine g_istore5 dX10_sums_255 257 rfl (by decide) rfl ?_
            refine g_iinc6 dX10_sums_257 260 rfl 1 (by decide) (nI (i + 1)) (nI_add _ 1) (by decide) rfl ?_
            refine g_goto dX10_sums_260 30 rfl ?_
            refine g_fgt (L' := [.ref 0, .int what, .int (nI t), .int (u0 + 0), .int u1, .int u2, .int (nI (i + 1)), gF, gF, gF]) ⟨Or.inl rfl, Or.inl rfl, Or.inl rfl, Or.inl rfl, Or.inl rfl, Or.inl rfl, Or.inl rfl, Or.inr rfl, Or.inr rfl, Or.inr rfl, trivial⟩ ?_
            have e : (fX10_sums_30 told s t sz) i (alone, u0, u1, u2) = ((gup alone (nI i) (rX10_sumOf told s (nI i) sz)), (u0 + 0), u1, u2) := by rw [fX10_sums_30, if_pos c1, if_pos c2, if_pos c3, if_neg c4]
            refine LX10_sums_30 hsz hs ht d (i + 1) (gup alone (nI i) (rX10_sumOf told s (nI i) sz)) (u0 + 0) u1 u2 (by omega) (by omega) ?_
            rw [← e]
            exact k
          · replace c4 := gB_t c4
            refine g_iload dX10_sums_178 180 rfl rfl ?_
            refine g_iload dX10_sums_180 182 rfl rfl ?_
            refine g_icmp_lt dX10_sums_182 204 rfl 185 rfl (fun c5 => ?_) (fun c5 => ?_)
            · refine g_iconst 1 dX10_sums_204 205 rfl (by decide) ?_
              refine g_goto dX10_sums_205 209 rfl ?_
              refine g_istore9 dX10_sums_209 211 rfl (by decide) rfl ?_
              refine g_iload_n dX10_sums_211 rfl 212 rfl rfl ?_
              refine g_iload dX10_sums_212 214 rfl rfl ?_
              refine g_if_eq dX10_sums_214 221 rfl 217 rfl (fun c => absurd c (gB_1 c4)) (fun _ => ?_)
              refine g_iconst 1 dX10_sums_217 218 rfl (by decide) ?_
              refine g_goto dX10_sums_218 222 rfl ?_
              refine g_iadd dX10_sums_222 223 rfl ?_
              refine g_istore3 dX10_sums_223 224 rfl (by decide) rfl ?_
              refine g_iload dX10_sums_224 226 rfl rfl ?_
              refine g_if_eq dX10_sums_226 239 rfl 229 rfl (fun c => absurd c (by decide)) (fun _ => ?_)
              refine g_aload_n dX10_sums_229 rfl 230 rfl rfl ?_
              refine g_get (v := .ref 8) dX10_sums_230 233 rfl lX10_31 rfl rfl ?_
              refine g_iload dX10_sums_233 235 rfl rfl ?_
              refine g_iaload' (N := 512) dX10_sums_235 236 rfl rfl (vp_in_nI (by omega) (by decide)) (rX10_sumOf told s (nI i) sz) gup_s ?_
              refine g_goto dX10_sums_236 241 rfl ?_
              refine g_istore4 dX10_sums_241 243 rfl (by decide) rfl ?_
              refine g_iload dX10_sums_243 245 rfl rfl ?_
              refine g_if_eq dX10_sums_245 253 rfl 248 rfl (fun c => absurd c (by decide)) (fun _ => ?_)
              refine g_iload dX10_sums_248 250 rfl rfl ?_
              refine g_goto dX10_sums_250 255 rfl ?_
              refine g_istore5 dX10_sums_255 257 rfl (by decide) rfl ?_
              refine g_iinc6 dX10_sums_257 260 rfl 1 (by decide) (nI (i + 1)) (nI_add _ 1) (by decide) rfl ?_
              refine g_goto dX10_sums_260 30 rfl ?_
              refine g_fgt (L' := [.ref 0, .int what, .int (nI t), .int (u0 + 1), .int (rX10_sumOf told s (nI i) sz), .int ((rX10_sumOf told s (nI i) sz) - (told 1)), .int (nI (i + 1)), gF, gF, gF]) ⟨Or.inl rfl, Or.inl rfl, Or.inl rfl, Or.inl rfl, Or.inl rfl, Or.inl rfl, Or.inl rfl, Or.inr rfl, Or.inr rfl, Or.inr rfl, trivial⟩ ?_
              have e : (fX10_sums_30 told s t sz) i (alone, u0, u1, u2) = ((gup alone (nI i) (rX10_sumOf told s (nI i) sz)), (u0 + 1), (rX10_sumOf told s (nI i) sz), ((rX10_sumOf told s (nI i) sz) - (told 1))) := by rw [fX10_sums_30, if_pos c1, if_pos c2, if_pos c3, if_pos c4, if_pos c5]
              refine LX10_sums_30 hsz hs ht d (i + 1) (gup alone (nI i) (rX10_sumOf told s (nI i) sz)) (u0 + 1) (rX10_sumOf told s (nI i) sz) ((rX10_sumOf told s (nI i) sz) - (told 1)) (by omega) (by omega) ?_
              rw [← e]
              exact k
            · refine g_iload dX10_sums_185 187 rfl rfl ?_
              refine g_iload dX10_sums_187 189 rfl rfl ?_
              refine g_icmp_ne dX10_sums_189 208 rfl 192 rfl (fun c6 => ?_) (fun c6 => ?_)
              · refine g_iconst 0 dX10_sums_208 209 rfl (by decide) ?_
                refine g_istore9 dX10_sums_209 211 rfl (by decide) rfl ?_
                refine g_iload_n dX10_sums_211 rfl 212 rfl rfl ?_
                refine g_iload dX10_sums_212 214 rfl rfl ?_
                refine g_if_eq dX10_sums_214 221 rfl 217 rfl (fun c => absurd c (gB_1 c4)) (fun _ => ?_)
                refine g_iconst 1 dX10_sums_217 218 rfl (by decide) ?_
                refine g_goto dX10_sums_218 222 rfl ?_
                refine g_iadd dX10_sums_222 223 rfl ?_
                refine g_istore3 dX10_sums_223 224 rfl (by decide) rfl ?_
                refine g_iload dX10_sums_224 226 rfl rfl ?_
                refine g_if_eq dX10_sums_226 239 rfl 229 rfl (fun _ => ?_) (fun c => absurd (by decide) c)
                refine g_iload dX10_sums_239 241 rfl rfl ?_
                refine g_istore4 dX10_sums_241 243 rfl (by decide) rfl ?_
                refine g_iload dX10_sums_243 245 rfl rfl ?_
                refine g_if_eq dX10_sums_245 253 rfl 248 rfl (fun _ => ?_) (fun c => absurd (by decide) c)
                refine g_iload dX10_sums_253 255 rfl rfl ?_
                refine g_istore5 dX10_sums_255 257 rfl (by decide) rfl ?_
                refine g_iinc6 dX10_sums_257 260 rfl 1 (by decide) (nI (i + 1)) (nI_add _ 1) (by decide) rfl ?_
                refine g_goto dX10_sums_260 30 rfl ?_
                refine g_fgt (L' := [.ref 0, .int what, .int (nI t), .int (u0 + 1), .int u1, .int u2, .int (nI (i + 1)), gF, gF, gF]) ⟨Or.inl rfl, Or.inl rfl, Or.inl rfl, Or.inl rfl, Or.inl rfl, Or.inl rfl, Or.inl rfl, Or.inr rfl, Or.inr rfl, Or.inr rfl, trivial⟩ ?_
                have e : (fX10_sums_30 told s t sz) i (alone, u0, u1, u2) = ((gup alone (nI i) (rX10_sumOf told s (nI i) sz)), (u0 + 1), u1, u2) := by rw [fX10_sums_30, if_pos c1, if_pos c2, if_pos c3, if_pos c4, if_neg c5, if_neg c6]
                refine LX10_sums_30 hsz hs ht d (i + 1) (gup alone (nI i) (rX10_sumOf told s (nI i) sz)) (u0 + 1) u1 u2 (by omega) (by omega) ?_
                rw [← e]
                exact k
              · refine g_aload_n dX10_sums_192 rfl 193 rfl rfl ?_
                refine g_get (v := .ref 8) dX10_sums_193 196 rfl lX10_31 rfl rfl ?_
                refine g_iload dX10_sums_196 198 rfl rfl ?_
                refine g_iaload' (N := 512) dX10_sums_198 199 rfl rfl (vp_in_nI (by omega) (by decide)) (rX10_sumOf told s (nI i) sz) gup_s ?_
                refine g_iload dX10_sums_199 201 rfl rfl ?_
                refine g_icmp_ge dX10_sums_201 208 rfl 204 rfl (fun c7 => ?_) (fun c7 => ?_)
                · refine g_iconst 0 dX10_sums_208 209 rfl (by decide) ?_
                  refine g_istore9 dX10_sums_209 211 rfl (by decide) rfl ?_
                  refine g_iload_n dX10_sums_211 rfl 212 rfl rfl ?_
                  refine g_iload dX10_sums_212 214 rfl rfl ?_
                  refine g_if_eq dX10_sums_214 221 rfl 217 rfl (fun c => absurd c (gB_1 c4)) (fun _ => ?_)
                  refine g_iconst 1 dX10_sums_217 218 rfl (by decide) ?_
                  refine g_goto dX10_sums_218 222 rfl ?_
                  refine g_iadd dX10_sums_222 223 rfl ?_
                  refine g_istore3 dX10_sums_223 224 rfl (by decide) rfl ?_
                  refine g_iload dX10_sums_224 226 rfl rfl ?_
                  refine g_if_eq dX10_sums_226 239 rfl 229 rfl (fun _ => ?_) (fun c => absurd (by decide) c)
                  refine g_iload dX10_sums_239 241 rfl rfl ?_
                  refine g_istore4 dX10_sums_241 243 rfl (by decide) rfl ?_
                  refine g_iload dX10_sums_243 245 rfl rfl ?_
                  refine g_if_eq dX10_sums_245 253 rfl 248 rfl (fun _ => ?_) (fun c => absurd (by decide) c)
                  refine g_iload dX10_sums_253 255 rfl rfl ?_
                  refine g_istore5 dX10_sums_255 257 rfl (by decide) rfl ?_
                  refine g_iinc6 dX10_sums_257 260 rfl 1 (by decide) (nI (i + 1)) (nI_add _ 1) (by decide) rfl ?_
                  refine g_goto dX10_sums_260 30 rfl ?_
                  refine g_fgt (L' := [.ref 0, .int what, .int (nI t), .int (u0 + 1), .int u1, .int u2, .int (nI (i + 1)), gF, gF, gF]) ⟨Or.inl rfl, Or.inl rfl, Or.inl rfl, Or.inl rfl, Or.inl rfl, Or.inl rfl, Or.inl rfl, Or.inr rfl, Or.inr rfl, Or.inr rfl, trivial⟩ ?_
                  have e : (fX10_sums_30 told s t sz) i (alone, u0, u1, u2) = ((gup alone (nI i) (rX10_sumOf told s (nI i) sz)), (u0 + 1), u1, u2) := by rw [fX10_sums_30, if_pos c1, if_pos c2, if_pos c3, if_pos c4, if_neg c5, if_pos c6, if_pos c7]
                  refine LX10_sums_30 hsz hs ht d (i + 1) (gup alone (nI i) (rX10_sumOf told s (nI i) sz)) (u0 + 1) u1 u2 (by omega) (by omega) ?_
                  rw [← e]
                  exact k
                · refine g_iconst 1 dX10_sums_204 205 rfl (by decide) ?_
                  refine g_goto dX10_sums_205 209 rfl ?_
                  refine g_istore9 dX10_sums_209 211 rfl (by decide) rfl ?_
                  refine g_iload_n dX10_sums_211 rfl 212 rfl rfl ?_
                  refine g_iload dX10_sums_212 214 rfl rfl ?_
                  refine g_if_eq dX10_sums_214 221 rfl 217 rfl (fun c => absurd c (gB_1 c4)) (fun _ => ?_)
                  refine g_iconst 1 dX10_sums_217 218 rfl (by decide) ?_
                  refine g_goto dX10_sums_218 222 rfl ?_
                  refine g_iadd dX10_sums_222 223 rfl ?_
                  refine g_istore3 dX10_sums_223 224 rfl (by decide) rfl ?_
                  refine g_iload dX10_sums_224 226 rfl rfl ?_
                  refine g_if_eq dX10_sums_226 239 rfl 229 rfl (fun c => absurd c (by decide)) (fun _ => ?_)
                  refine g_aload_n dX10_sums_229 rfl 230 rfl rfl ?_
                  refine g_get (v := .ref 8) dX10_sums_230 233 rfl lX10_31 rfl rfl ?_
                  refine g_iload dX10_sums_233 235 rfl rfl ?_
                  refine g_iaload' (N := 512) dX10_sums_235 236 rfl rfl (vp_in_nI (by omega) (by decide)) (rX10_sumOf told s (nI i) sz) gup_s ?_
                  refine g_goto dX10_sums_236 241 rfl ?_
                  refine g_istore4 dX10_sums_241 243 rfl (by decide) rfl ?_
                  refine g_iload dX10_sums_243 245 rfl rfl ?_
                  refine g_if_eq dX10_sums_245 253 rfl 248 rfl (fun c => absurd c (by decide)) (fun _ => ?_)
                  refine g_iload dX10_sums_248 250 rfl rfl ?_
                  refine g_goto dX10_sums_250 255 rfl ?_
                  refine g_istore5 dX10_sums_255 257 rfl (by decide) rfl ?_
                  refine g_iinc6 dX10_sums_257 260 rfl 1 (by decide) (nI (i + 1)) (nI_add _ 1) (by decide) rfl ?_
                  refine g_goto dX10_sums_260 30 rfl ?_
                  refine g_fgt (L' := [.ref 0, .int what, .int (nI t), .int (u0 + 1), .int (rX10_sumOf told s (nI i) sz), .int ((rX10_sumOf told s (nI i) sz) - (told 1)), .int (nI (i + 1)), gF, gF, gF]) ⟨Or.inl rfl, Or.inl rfl, Or.inl rfl, Or.inl rfl, Or.inl rfl, Or.inl rfl, Or.inl rfl, Or.inr rfl, Or.inr rfl, Or.inr rfl, trivial⟩ ?_
                  have e : (fX10_sums_30 told s t sz) i (alone, u0, u1, u2) = ((gup alone (nI i) (rX10_sumOf told s (nI i) sz)), (u0 + 1), (rX10_sumOf told s (nI i) sz), ((rX10_sumOf told s (nI i) sz) - (told 1))) := by rw [fX10_sums_30, if_pos c1, if_pos c2, if_pos c3, if_pos c4, if_neg c5, if_pos c6, if_neg c7]
                  refine LX10_sums_30 hsz hs ht d (i + 1) (gup alone (nI i) (rX10_sumOf told s (nI i) sz)) (u0 + 1) (rX10_sumOf told s (nI i) sz) ((rX10_sumOf told s (nI i) sz) - (told 1)) (by omega) (by omega) ?_
                  rw [← e]
                  exact k
        · refine g_aload_n dX10_sums_140 rfl 141 rfl rfl ?_
          refine g_get (v := .ref 2) dX10_sums_141 144 rfl lX10_13 rfl rfl ?_
          refine g_iconst 1 dX10_sums_144 145 rfl (by decide) ?_
          refine g_iaload (N := 40) dX10_sums_145 146 rfl rfl (vp_in_iff.mpr (by decide)) ?_
          refine g_aload_n dX10_sums_146 rfl 147 rfl rfl ?_
          refine g_get (v := .ref 8) dX10_sums_147 150 rfl lX10_31 rfl rfl ?_
          refine g_iload dX10_sums_150 152 rfl rfl ?_
          refine g_iaload' (N := 512) dX10_sums_152 153 rfl rfl (vp_in_nI (by omega) (by decide)) (rX10_sumOf told s (nI i) sz) gup_s ?_
          refine g_isub dX10_sums_153 154 rfl ?_
          refine g_goto dX10_sums_154 171 rfl ?_
          refine g_istore8 dX10_sums_171 173 rfl (by decide) rfl ?_
          refine g_iload dX10_sums_173 175 rfl rfl ?_
          refine g_if_eq dX10_sums_175 208 rfl 178 rfl (fun c8 => ?_) (fun c8 => ?_)
          · replace c8 := gB_f c8
            refine g_iconst 0 dX10_sums_208 209 rfl (by decide) ?_
            refine g_istore9 dX10_sums_209 211 rfl (by decide) rfl ?_
            refine g_iload_n dX10_sums_211 rfl 212 rfl rfl ?_
            refine g_iload dX10_sums_212 214 rfl rfl ?_
            refine g_if_eq dX10_sums_214 221 rfl 217 rfl (fun _ => ?_) (fun c => absurd (gB_0 c8) c)
            refine g_iconst 0 dX10_sums_221 222 rfl (by decide) ?_
            refine g_iadd dX10_sums_222 223 rfl ?_
            refine g_istore3 dX10_sums_223 224 rfl (by decide) rfl ?_
            refine g_iload dX10_sums_224 226 rfl rfl ?_
            refine g_if_eq dX10_sums_226 239 rfl 229 rfl (fun _ => ?_) (fun c => absurd (by decide) c)
            refine g_iload dX10_sums_239 241 rfl rfl ?_
            refine g_istore4 dX10_sums_241 243 rfl (by decide) rfl ?_
            refine g_iload dX10_sums_243 245 rfl rfl ?_
            refine g_if_eq dX10_sums_245 253 rfl 248 rfl (fun _ => ?_) (fun c => absurd (by decide) c)
            refine g_iload dX10_sums_253 255 rfl rfl ?_
            refine g_istore5 dX10_sums_255 257 rfl (by decide) rfl ?_
            refine g_iinc6 dX10_sums_257 260 rfl 1 (by decide) (nI (i + 1)) (nI_add _ 1) (by decide) rfl ?_
            refine g_goto dX10_sums_260 30 rfl ?_
            refine g_fgt (L' := [.ref 0, .int what, .int (nI t), .int (u0 + 0), .int u1, .int u2, .int (nI (i + 1)), gF, gF, gF]) ⟨Or.inl rfl, Or.inl rfl, Or.inl rfl, Or.inl rfl, Or.inl rfl, Or.inl rfl, Or.inl rfl, Or.inr rfl, Or.inr rfl, Or.inr rfl, trivial⟩ ?_
            have e : (fX10_sums_30 told s t sz) i (alone, u0, u1, u2) = ((gup alone (nI i) (rX10_sumOf told s (nI i) sz)), (u0 + 0), u1, u2) := by rw [fX10_sums_30, if_pos c1, if_pos c2, if_neg c3, if_neg c8]
            refine LX10_sums_30 hsz hs ht d (i + 1) (gup alone (nI i) (rX10_sumOf told s (nI i) sz)) (u0 + 0) u1 u2 (by omega) (by omega) ?_
            rw [← e]
            exact k
          · replace c8 := gB_t c8
            refine g_iload dX10_sums_178 180 rfl rfl ?_
            refine g_iload dX10_sums_180 182 rfl rfl ?_
            refine g_icmp_lt dX10_sums_182 204 rfl 185 rfl (fun c9 => ?_) (fun c9 => ?_)
            · refine g_iconst 1 dX10_sums_204 205 rfl (by decide) ?_
              refine g_goto dX10_sums_205 209 rfl ?_
              refine g_istore9 dX10_sums_209 211 rfl (by decide) rfl ?_
              refine g_iload_n dX10_sums_211 rfl 212 rfl rfl ?_
              refine g_iload dX10_sums_212 214 rfl rfl ?_
              refine g_if_eq dX10_sums_214 221 rfl 217 rfl (fun c => absurd c (gB_1 c8)) (fun _ => ?_)
              refine g_iconst 1 dX10_sums_217 218 rfl (by decide) ?_
              refine g_goto dX10_sums_218 222 rfl ?_
              refine g_iadd dX10_sums_222 223 rfl ?_
              refine g_istore3 dX10_sums_223 224 rfl (by decide) rfl ?_
              refine g_iload dX10_sums_224 226 rfl rfl ?_
              refine g_if_eq dX10_sums_226 239 rfl 229 rfl (fun c => absurd c (by decide)) (fun _ => ?_)
              refine g_aload_n dX10_sums_229 rfl 230 rfl rfl ?_
              refine g_get (v := .ref 8) dX10_sums_230 233 rfl lX10_31 rfl rfl ?_
              refine g_iload dX10_sums_233 235 rfl rfl ?_
              refine g_iaload' (N := 512) dX10_sums_235 236 rfl rfl (vp_in_nI (by omega) (by decide)) (rX10_sumOf told s (nI i) sz) gup_s ?_
              refine g_goto dX10_sums_236 241 rfl ?_
              refine g_istore4 dX10_sums_241 243 rfl (by decide) rfl ?_
              refine g_iload dX10_sums_243 245 rfl rfl ?_
              refine g_if_eq dX10_sums_245 253 rfl 248 rfl (fun c => absurd c (by decide)) (fun _ => ?_)
              refine g_iload dX10_sums_248 250 rfl rfl ?_
              refine g_goto dX10_sums_250 255 rfl ?_
              refine g_istore5 dX10_sums_255 257 rfl (by decide) rfl ?_
              refine g_iinc6 dX10_sums_257 260 rfl 1 (by decide) (nI (i + 1)) (nI_add _ 1) (by decide) rfl ?_
              refine g_goto dX10_sums_260 30 rfl ?_
              refine g_fgt (L' := [.ref 0, .int what, .int (nI t), .int (u0 + 1), .int (rX10_sumOf told s (nI i) sz), .int ((told 1) - (rX10_sumOf told s (nI i) sz)), .int (nI (i + 1)), gF, gF, gF]) ⟨Or.inl rfl, Or.inl rfl, Or.inl rfl, Or.inl rfl, Or.inl rfl, Or.inl rfl, Or.inl rfl, Or.inr rfl, Or.inr rfl, Or.inr rfl, trivial⟩ ?_
              have e : (fX10_sums_30 told s t sz) i (alone, u0, u1, u2) = ((gup alone (nI i) (rX10_sumOf told s (nI i) sz)), (u0 + 1), (rX10_sumOf told s (nI i) sz), ((told 1) - (rX10_sumOf told s (nI i) sz))) := by rw [fX10_sums_30, if_pos c1, if_pos c2, if_neg c3, if_pos c8, if_pos c9]
              refine LX10_sums_30 hsz hs ht d (i + 1) (gup alone (nI i) (rX10_sumOf told s (nI i) sz)) (u0 + 1) (rX10_sumOf told s (nI i) sz) ((told 1) - (rX10_sumOf told s (nI i) sz)) (by omega) (by omega) ?_
              rw [← e]
              exact k
            · refine g_iload dX10_sums_185 187 rfl rfl ?_
              refine g_iload dX10_sums_187 189 rfl rfl ?_
              refine g_icmp_ne dX10_sums_189 208 rfl 192 rfl (fun c10 => ?_) (fun c10 => ?_)
              · refine g_iconst 0 dX10_sums_208 209 rfl (by decide) ?_
                refine g_istore9 dX10_sums_209 211 rfl (by decide) rfl ?_
                refine g_iload_n dX10_sums_211 rfl 212 rfl rfl ?_
                refine g_iload dX10_sums_212 214 rfl rfl ?_
                refine g_if_eq dX10_sums_214 221 rfl 217 rfl (fun c => absurd c (gB_1 c8)) (fun _ => ?_)
                refine g_iconst 1 dX10_sums_217 218 rfl (by decide) ?_
                refine g_goto dX10_sums_218 222 rfl ?_
                refine g_iadd dX10_sums_222 223 rfl ?_
                refine g_istore3 dX10_sums_223 224 rfl (by decide) rfl ?_
                refine g_iload dX10_sums_224 226 rfl rfl ?_
                refine g_if_eq dX10_sums_226 239 rfl 229 rfl (fun _ => ?_) (fun c => absurd (by decide) c)
                refine g_iload dX10_sums_239 241 rfl rfl ?_
                refine g_istore4 dX10_sums_241 243 rfl (by decide) rfl ?_
                refine g_iload dX10_sums_243 245 rfl rfl ?_
                refine g_if_eq dX10_sums_245 253 rfl 248 rfl (fun _ => ?_) (fun c => absurd (by decide) c)
                refine g_iload dX10_sums_253 255 rfl rfl ?_
                refine g_istore5 dX10_sums_255 257 rfl (by decide) rfl ?_
                refine g_iinc6 dX10_sums_257 260 rfl 1 (by decide) (nI (i + 1)) (nI_add _ 1) (by decide) rfl ?_
                refine g_goto dX10_sums_260 30 rfl ?_
                refine g_fgt (L' := [.ref 0, .int what, .int (nI t), .int (u0 + 1), .int u1, .int u2, .int (nI (i + 1)), gF, gF, gF]) ⟨Or.inl rfl, Or.inl rfl, Or.inl rfl, Or.inl rfl, Or.inl rfl, Or.inl rfl, Or.inl rfl, Or.inr rfl, Or.inr rfl, Or.inr rfl, trivial⟩ ?_
                have e : (fX10_sums_30 told s t sz) i (alone, u0, u1, u2) = ((gup alone (nI i) (rX10_sumOf told s (nI i) sz)), (u0 + 1), u1, u2) := by rw [fX10_sums_30, if_pos c1, if_pos c2, if_neg c3, if_pos c8, if_neg c9, if_neg c10]
                refine LX10_sums_30 hsz hs ht d (i + 1) (gup alone (nI i) (rX10_sumOf told s (nI i) sz)) (u0 + 1) u1 u2 (by omega) (by omega) ?_
                rw [← e]
                exact k
              · refine g_aload_n dX10_sums_192 rfl 193 rfl rfl ?_
                refine g_get (v := .ref 8) dX10_sums_193 196 rfl lX10_31 rfl rfl ?_
                refine g_iload dX10_sums_196 198 rfl rfl ?_
                refine g_iaload' (N := 512) dX10_sums_198 199 rfl rfl (vp_in_nI (by omega) (by decide)) (rX10_sumOf told s (nI i) sz) gup_s ?_
                refine g_iload dX10_sums_199 201 rfl rfl ?_
                refine g_icmp_ge dX10_sums_201 208 rfl 204 rfl (fun c11 => ?_) (fun c11 => ?_)
                · refine g_iconst 0 dX10_sums_208 209 rfl (by decide) ?_
                  refine g_istore9 dX10_sums_209 211 rfl (by decide) rfl ?_
                  refine g_iload_n dX10_sums_211 rfl 212 rfl rfl ?_
                  refine g_iload dX10_sums_212 214 rfl rfl ?_
                  refine g_if_eq dX10_sums_214 221 rfl 217 rfl (fun c => absurd c (gB_1 c8)) (fun _ => ?_)
                  refine g_iconst 1 dX10_sums_217 218 rfl (by decide) ?_
                  refine g_goto dX10_sums_218 222 rfl ?_
                  refine g_iadd dX10_sums_222 223 rfl ?_
                  refine g_istore3 dX10_sums_223 224 rfl (by decide) rfl ?_
                  refine g_iload dX10_sums_224 226 rfl rfl ?_
                  refine g_if_eq dX10_sums_226 239 rfl 229 rfl (fun _ => ?_) (fun c => absurd (by decide) c)
                  refine g_iload dX10_sums_239 241 rfl rfl ?_
                  refine g_istore4 dX10_sums_241 243 rfl (by decide) rfl ?_
                  refine g_iload dX10_sums_243 245 rfl rfl ?_
                  refine g_if_eq dX10_sums_245 253 rfl 248 rfl (fun _ => ?_) (fun c => absurd (by decide) c)
                  refine g_iload dX10_sums_253 255 rfl rfl ?_
                  refine g_istore5 dX10_sums_255 257 rfl (by decide) rfl ?_
                  refine g_iinc6 dX10_sums_257 260 rfl 1 (by decide) (nI (i + 1)) (nI_add _ 1) (by decide) rfl ?_
                  refine g_goto dX10_sums_260 30 rfl ?_
                  refine g_fgt (L' := [.ref 0, .int what, .int (nI t), .int (u0 + 1), .int u1, .int u2, .int (nI (i + 1)), gF, gF, gF]) ⟨Or.inl rfl, Or.inl rfl, Or.inl rfl, Or.inl rfl, Or.inl rfl, Or.inl rfl, Or.inl rfl, Or.inr rfl, Or.inr rfl, Or.inr rfl, trivial⟩ ?_
                  have e : (fX10_sums_30 told s t sz) i (alone, u0, u1, u2) = ((gup alone (nI i) (rX10_sumOf told s (nI i) sz)), (u0 + 1), u1, u2) := by rw [fX10_sums_30, if_pos c1, if_pos c2, if_neg c3, if_pos c8, if_neg c9, if_pos c10, if_pos c11]
                  refine LX10_sums_30 hsz hs ht d (i + 1) (gup alone (nI i) (rX10_sumOf told s (nI i) sz)) (u0 + 1) u1 u2 (by omega) (by omega) ?_
                  rw [← e]
                  exact k
                · refine g_iconst 1 dX10_sums_204 205 rfl (by decide) ?_
                  refine g_goto dX10_sums_205 209 rfl ?_
                  refine g_istore9 dX10_sums_209 211 rfl (by decide) rfl ?_
                  refine g_iload_n dX10_sums_211 rfl 212 rfl rfl ?_
                  refine g_iload dX10_sums_212 214 rfl rfl ?_
                  refine g_if_eq dX10_sums_214 221 rfl 217 rfl (fun c => absurd c (gB_1 c8)) (fun _ => ?_)
                  refine g_iconst 1 dX10_sums_217 218 rfl (by decide) ?_
                  refine g_goto dX10_sums_218 222 rfl ?_
                  refine g_iadd dX10_sums_222 223 rfl ?_
                  refine g_istore3 dX10_sums_223 224 rfl (by decide) rfl ?_
                  refine g_iload dX10_sums_224 226 rfl rfl ?_
                  refine g_if_eq dX10_sums_226 239 rfl 229 rfl (fun c => absurd c (by decide)) (fun _ => ?_)
                  refine g_aload_n dX10_sums_229 rfl 230 rfl rfl ?_
                  refine g_get (v := .ref 8) dX10_sums_230 233 rfl lX10_31 rfl rfl ?_
                  refine g_iload dX10_sums_233 235 rfl rfl ?_
                  refine g_iaload' (N := 512) dX10_sums_235 236 rfl rfl (vp_in_nI (by omega) (by decide)) (rX10_sumOf told s (nI i) sz) gup_s ?_
                  refine g_goto dX10_sums_236 241 rfl ?_
                  refine g_istore4 dX10_sums_241 243 rfl (by decide) rfl ?_
                  refine g_iload dX10_sums_243 245 rfl rfl ?_
                  refine g_if_eq dX10_sums_245 253 rfl 248 rfl (fun c => absurd c (by decide)) (fun _ => ?_)
                  refine g_iload dX10_sums_248 250 rfl rfl ?_
                  refine g_goto dX10_sums_250 255 rfl ?_
                  refine g_istore5 dX10_sums_255 257 rfl (by decide) rfl ?_
                  refine g_iinc6 dX10_sums_257 260 rfl 1 (by decide) (nI (i + 1)) (nI_add _ 1) (by decide) rfl ?_
                  refine g_goto dX10_sums_260 30 rfl ?_
                  refine g_fgt (L' := [.ref 0, .int what, .int (nI t), .int (u0 + 1), .int (rX10_sumOf told s (nI i) sz), .int ((told 1) - (rX10_sumOf told s (nI i) sz)), .int (nI (i + 1)), gF, gF, gF]) ⟨Or.inl rfl, Or.inl rfl, Or.inl rfl, Or.inl rfl, Or.inl rfl, Or.inl rfl, Or.inl rfl, Or.inr rfl, Or.inr rfl, Or.inr rfl, trivial⟩ ?_
                  have e : (fX10_sums_30 told s t sz) i (alone, u0, u1, u2) = ((gup alone (nI i) (rX10_sumOf told s (nI i) sz)), (u0 + 1), (rX10_sumOf told s (nI i) sz), ((told 1) - (rX10_sumOf told s (nI i) sz))) := by rw [fX10_sums_30, if_pos c1, if_pos c2, if_neg c3, if_pos c8, if_neg c9, if_pos c10, if_neg c11]
                  refine LX10_sums_30 hsz hs ht d (i + 1) (gup alone (nI i) (rX10_sumOf told s (nI i) sz)) (u0 + 1) (rX10_sumOf told s (nI i) sz) ((told 1) - (rX10_sumOf told s (nI i) sz)) (by omega) (by omega) ?_
                  rw [← e]
                  exact k
      · refine g_iconst 1 dX10_sums_72 73 rfl (by decide) ?_
        refine g_goto dX10_sums_73 77 rfl ?_
        refine g_istore7 dX10_sums_77 79 rfl (by decide) rfl ?_
        refine g_iconst 1 dX10_sums_79 80 rfl (by decide) ?_
        refine g_istore8 dX10_sums_80 82 rfl (by decide) rfl ?_
        refine LX10_sums_82 (by omega) (i - 1) 1 true (by omega) ?_
        refine g_aload_n dX10_sums_124 rfl 125 rfl rfl ?_
        refine g_get (v := .ref 8) dX10_sums_125 128 rfl lX10_31 rfl rfl ?_
        refine g_iload dX10_sums_128 130 rfl rfl ?_
        refine g_iaload' (N := 512) dX10_sums_130 131 rfl rfl (vp_in_nI (by omega) (by decide)) (rX10_sumOf told s (nI i) sz) gup_s ?_
        refine g_aload_n dX10_sums_131 rfl 132 rfl rfl ?_
        refine g_get (v := .ref 2) dX10_sums_132 135 rfl lX10_13 rfl rfl ?_
        refine g_iconst 1 dX10_sums_135 136 rfl (by decide) ?_
        refine g_iaload (N := 40) dX10_sums_136 137 rfl rfl (vp_in_iff.mpr (by decide)) ?_
        refine g_icmp_ge dX10_sums_137 157 rfl 140 rfl (fun c12 => ?_) (fun c12 => ?_)
        · refine g_aload_n dX10_sums_157 rfl 158 rfl rfl ?_
          refine g_get (v := .ref 8) dX10_sums_158 161 rfl lX10_31 rfl rfl ?_
          refine g_iload dX10_sums_161 163 rfl rfl ?_
          refine g_iaload' (N := 512) dX10_sums_163 164 rfl rfl (vp_in_nI (by omega) (by decide)) (rX10_sumOf told s (nI i) sz) gup_s ?_
          refine g_aload_n dX10_sums_164 rfl 165 rfl rfl ?_
          refine g_get (v := .ref 2) dX10_sums_165 168 rfl lX10_13 rfl rfl ?_
          refine g_iconst 1 dX10_sums_168 169 rfl (by decide) ?_
          refine g_iaload (N := 40) dX10_sums_169 170 rfl rfl (vp_in_iff.mpr (by decide)) ?_
          refine g_isub dX10_sums_170 171 rfl ?_
          refine g_istore8 dX10_sums_171 173 rfl (by decide) rfl ?_
          refine g_iload dX10_sums_173 175 rfl rfl ?_
          refine g_if_eq dX10_sums_175 208 rfl 178 rfl (fun c13 => ?_) (fun c13 => ?_)
          · replace c13 := gB_f c13
            refine g_iconst 0 dX10_sums_208 209 rfl (by decide) ?_
            refine g_istore9 dX10_sums_209 211 rfl (by decide) rfl ?_
            refine g_iload_n dX10_sums_211 rfl 212 rfl rfl ?_
            refine g_iload dX10_sums_212 214 rfl rfl ?_
            refine g_if_eq dX10_sums_214 221 rfl 217 rfl (fun _ => ?_) (fun c => absurd (gB_0 c13) c)
            refine g_iconst 0 dX10_sums_221 222 rfl (by decide) ?_
            refine g_iadd dX10_sums_222 223 rfl ?_
            refine g_istore3 dX10_sums_223 224 rfl (by decide) rfl ?_
            refine g_iload dX10_sums_224 226 rfl rfl ?_
            refine g_if_eq dX10_sums_226 239 rfl 229 rfl (fun _ => ?_) (fun c => absurd (by decide) c)
            refine g_iload dX10_sums_239 241 rfl rfl ?_
            refine g_istore4 dX10_sums_241 243 rfl (by decide) rfl ?_
            refine g_iload dX10_sums_243 245 rfl rfl ?_
            refine g_if_eq dX10_sums_245 253 rfl 248 rfl (fun _ => ?_) (fun c => absurd (by decide) c)
            refine g_iload dX10_sums_253 255 rfl rfl ?_
            refine g_istore5 dX10_sums_255 257 rfl (by decide) rfl ?_
            refine g_iinc6 dX10_sums_257 260 rfl 1 (by decide) (nI (i + 1)) (nI_add _ 1) (by decide) rfl ?_
            refine g_goto dX10_sums_260 30 rfl ?_
            refine g_fgt (L' := [.ref 0, .int what, .int (nI t), .int (u0 + 0), .int u1, .int u2, .int (nI (i + 1)), gF, gF, gF]) ⟨Or.inl rfl, Or.inl rfl, Or.inl rfl, Or.inl rfl, Or.inl rfl, Or.inl rfl, Or.inl rfl, Or.inr rfl, Or.inr rfl, Or.inr rfl, trivial⟩ ?_
            have e : (fX10_sums_30 told s t sz) i (alone, u0, u1, u2) = ((gup alone (nI i) (rX10_sumOf told s (nI i) sz)), (u0 + 0), u1, u2) := by rw [fX10_sums_30, if_pos c1, if_neg c2, if_pos c12, if_neg c13]
            refine LX10_sums_30 hsz hs ht d (i + 1) (gup alone (nI i) (rX10_sumOf told s (nI i) sz)) (u0 + 0) u1 u2 (by omega) (by omega) ?_
            rw [← e]
            exact k
          · replace c13 := gB_t c13
            refine g_iload dX10_sums_178 180 rfl rfl ?_
            refine g_iload dX10_sums_180 182 rfl rfl ?_
            refine g_icmp_lt dX10_sums_182 204 rfl 185 rfl (fun c14 => ?_) (fun c14 => ?_)
            · refine g_iconst 1 dX10_sums_204 205 rfl (by decide) ?_
              refine g_goto dX10_sums_205 209 rfl ?_
              refine g_istore9 dX10_sums_209 211 rfl (by decide) rfl ?_
              refine g_iload_n dX10_sums_211 rfl 212 rfl rfl ?_
              refine g_iload dX10_sums_212 214 rfl rfl ?_
              refine g_if_eq dX10_sums_214 221 rfl 217 rfl (fun c => absurd c (gB_1 c13)) (fun _ => ?_)
              refine g_iconst 1 dX10_sums_217 218 rfl (by decide) ?_
              refine g_goto dX10_sums_218 222 rfl ?_
              refine g_iadd dX10_sums_222 223 rfl ?_
              refine g_istore3 dX10_sums_223 224 rfl (by decide) rfl ?_
              refine g_iload dX10_sums_224 226 rfl rfl ?_
              refine g_if_eq dX10_sums_226 239 rfl 229 rfl (fun c => absurd c (by decide)) (fun _ => ?_)
              refine g_aload_n dX10_sums_229 rfl 230 rfl rfl ?_
              refine g_get (v := .ref 8) dX10_sums_230 233 rfl lX10_31 rfl rfl ?_
              refine g_iload dX10_sums_233 235 rfl rfl ?_
              refine g_iaload' (N := 512) dX10_sums_235 236 rfl rfl (vp_in_nI (by omega) (by decide)) (rX10_sumOf told s (nI i) sz) gup_s ?_
              refine g_goto dX10_sums_236 241 rfl ?_
              refine g_istore4 dX10_sums_241 243 rfl (by decide) rfl ?_
              refine g_iload dX10_sums_243 245 rfl rfl ?_
              refine g_if_eq dX10_sums_245 253 rfl 248 rfl (fun c => absurd c (by decide)) (fun _ => ?_)
              refine g_iload dX10_sums_248 250 rfl rfl ?_
              refine g_goto dX10_sums_250 255 rfl ?_
              refine g_istore5 dX10_sums_255 257 rfl (by decide) rfl ?_
              refine g_iinc6 dX10_sums_257 260 rfl 1 (by decide) (nI (i + 1)) (nI_add _ 1) (by decide) rfl ?_
              refine g_goto dX10_sums_260 30 rfl ?_
              refine g_fgt (L' := [.ref 0, .int what, .int (nI t), .int (u0 + 1), .int (rX10_sumOf told s (nI i) sz), .int ((rX10_sumOf told s (nI i) sz) - (told 1)), .int (nI (i + 1)), gF, gF, gF]) ⟨Or.inl rfl, Or.inl rfl, Or.inl rfl, Or.inl rfl, Or.inl rfl, Or.inl rfl, Or.inl rfl, Or.inr rfl, Or.inr rfl, Or.inr rfl, trivial⟩ ?_
              have e : (fX10_sums_30 told s t sz) i (alone, u0, u1, u2) = ((gup alone (nI i) (rX10_sumOf told s (nI i) sz)), (u0 + 1), (rX10_sumOf told s (nI i) sz), ((rX10_sumOf told s (nI i) sz) - (told 1))) := by rw [fX10_sums_30, if_pos c1, if_neg c2, if_pos c12, if_pos c13, if_pos c14]
              refine LX10_sums_30 hsz hs ht d (i + 1) (gup alone (nI i) (rX10_sumOf told s (nI i) sz)) (u0 + 1) (rX10_sumOf told s (nI i) sz) ((rX10_sumOf told s (nI i) sz) - (told 1)) (by omega) (by omega) ?_
              rw [← e]
              exact k
            · refine g_iload dX10_sums_185 187 rfl rfl ?_
              refine g_iload dX10_sums_187 189 rfl rfl ?_
              refine g_icmp_ne dX10_sums_189 208 rfl 192 rfl (fun c15 => ?_) (fun c15 => ?_)
              · refine g_iconst 0 dX10_sums_208 209 rfl (by decide) ?_
                refine g_istore9 dX10_sums_209 211 rfl (by decide) rfl ?_
                refine g_iload_n dX10_sums_211 rfl 212 rfl rfl ?_
                refine g_iload dX10_sums_212 214 rfl rfl ?_
                refine g_if_eq dX10_sums_214 221 rfl 217 rfl (fun c => absurd c (gB_1 c13)) (fun _ => ?_)
                refine g_iconst 1 dX10_sums_217 218 rfl (by decide) ?_
                refine g_goto dX10_sums_218 222 rfl ?_
                refine g_iadd dX10_sums_222 223 rfl ?_
                refine g_istore3 dX10_sums_223 224 rfl (by decide) rfl ?_
                refine g_iload dX10_sums_224 226 rfl rfl ?_
                refine g_if_eq dX10_sums_226 239 rfl 229 rfl (fun _ => ?_) (fun c => absurd (by decide) c)
                refine g_iload dX10_sums_239 241 rfl rfl ?_
                refine g_istore4 dX10_sums_241 243 rfl (by decide) rfl ?_
                refine g_iload dX10_sums_243 245 rfl rfl ?_
                refine g_if_eq dX10_sums_245 253 rfl 248 rfl (fun _ => ?_) (fun c => absurd (by decide) c)
                refine g_iload dX10_sums_253 255 rfl rfl ?_
                refine g_istore5 dX10_sums_255 257 rfl (by decide) rfl ?_
                refine g_iinc6 dX10_sums_257 260 rfl 1 (by decide) (nI (i + 1)) (nI_add _ 1) (by decide) rfl ?_
                refine g_goto dX10_sums_260 30 rfl ?_
                refine g_fgt (L' := [.ref 0, .int what, .int (nI t), .int (u0 + 1), .int u1, .int u2, .int (nI (i + 1)), gF, gF, gF]) ⟨Or.inl rfl, Or.inl rfl, Or.inl rfl, Or.inl rfl, Or.inl rfl, Or.inl rfl, Or.inl rfl, Or.inr rfl, Or.inr rfl, Or.inr rfl, trivial⟩ ?_
                have e : (fX10_sums_30 told s t sz) i (alone, u0, u1, u2) = ((gup alone (nI i) (rX10_sumOf told s (nI i) sz)), (u0 + 1), u1, u2) := by rw [fX10_sums_30, if_pos c1, if_neg c2, if_pos c12, if_pos c13, if_neg c14, if_neg c15]
                refine LX10_sums_30 hsz hs ht d (i + 1) (gup alone (nI i) (rX10_sumOf told s (nI i) sz)) (u0 + 1) u1 u2 (by omega) (by omega) ?_
                rw [← e]
                exact k
              · refine g_aload_n dX10_sums_192 rfl 193 rfl rfl ?_
                refine g_get (v := .ref 8) dX10_sums_193 196 rfl lX10_31 rfl rfl ?_
                refine g_iload dX10_sums_196 198 rfl rfl ?_
                refine g_iaload' (N := 512) dX10_sums_198 199 rfl rfl (vp_in_nI (by omega) (by decide)) (rX10_sumOf told s (nI i) sz) gup_s ?_
                refine g_iload dX10_sums_199 201 rfl rfl ?_
                refine g_icmp_ge dX10_sums_201 208 rfl 204 rfl (fun c16 => ?_) (fun c16 => ?_)
                · refine g_iconst 0 dX10_sums_208 209 rfl (by decide) ?_
                  refine g_istore9 dX10_sums_209 211 rfl (by decide) rfl ?_
                  refine g_iload_n dX10_sums_211 rfl 212 rfl rfl ?_
                  refine g_iload dX10_sums_212 214 rfl rfl ?_
                  refine g_if_eq dX10_sums_214 221 rfl 217 rfl (fun c => absurd c (gB_1 c13)) (fun _ => ?_)
                  refine g_iconst 1 dX10_sums_217 218 rfl (by decide) ?_
                  refine g_goto dX10_sums_218 222 rfl ?_
                  refine g_iadd dX10_sums_222 223 rfl ?_
                  refine g_istore3 dX10_sums_223 224 rfl (by decide) rfl ?_
                  refine g_iload dX10_sums_224 226 rfl rfl ?_
                  refine g_if_eq dX10_sums_226 239 rfl 229 rfl (fun _ => ?_) (fun c => absurd (by decide) c)
                  refine g_iload dX10_sums_239 241 rfl rfl ?_
                  refine g_istore4 dX10_sums_241 243 rfl (by decide) rfl ?_
                  refine g_iload dX10_sums_243 245 rfl rfl ?_
                  refine g_if_eq dX10_sums_245 253 rfl 248 rfl (fun _ => ?_) (fun c => absurd (by decide) c)
                  refine g_iload dX10_sums_253 255 rfl rfl ?_
                  refine g_istore5 dX10_sums_255 257 rfl (by decide) rfl ?_
                  refine g_iinc6 dX10_sums_257 260 rfl 1 (by decide) (nI (i + 1)) (nI_add _ 1) (by decide) rfl ?_
                  refine g_goto dX10_sums_260 30 rfl ?_
                  refine g_fgt (L' := [.ref 0, .int what, .int (nI t), .int (u0 + 1), .int u1, .int u2, .int (nI (i + 1)), gF, gF, gF]) ⟨Or.inl rfl, Or.inl rfl, Or.inl rfl, Or.inl rfl, Or.inl rfl, Or.inl rfl, Or.inl rfl, Or.inr rfl, Or.inr rfl, Or.inr rfl, trivial⟩ ?_
                  have e : (fX10_sums_30 told s t sz) i (alone, u0, u1, u2) = ((gup alone (nI i) (rX10_sumOf told s (nI i) sz)), (u0 + 1), u1, u2) := by rw [fX10_sums_30, if_pos c1, if_neg c2, if_pos c12, if_pos c13, if_neg c14, if_pos c15, if_pos c16]
                  refine LX10_sums_30 hsz hs ht d (i + 1) (gup alone (nI i) (rX10_sumOf told s (nI i) sz)) (u0 + 1) u1 u2 (by omega) (by omega) ?_
                  rw [← e]
                  exact k
                · refine g_iconst 1 dX10_sums_204 205 rfl (by decide) ?_
                  refine g_goto dX10_sums_205 209 rfl ?_
                  refine g_istore9 dX10_sums_209 211 rfl (by decide) rfl ?_
                  refine g_iload_n dX10_sums_211 rfl 212 rfl rfl ?_
                  refine g_iload dX10_sums_212 214 rfl rfl ?_
                  refine g_if_eq dX10_sums_214 221 rfl 217 rfl (fun c => absurd c (gB_1 c13)) (fun _ => ?_)
                  refine g_iconst 1 dX10_sums_217 218 rfl (by decide) ?_
                  refine g_goto dX10_sums_218 222 rfl ?_
                  refine g_iadd dX10_sums_222 223 rfl ?_
                  refine g_istore3 dX10_sums_223 224 rfl (by decide) rfl ?_
                  refine g_iload dX10_sums_224 226 rfl rfl ?_
                  refine g_if_eq dX10_sums_226 239 rfl 229 rfl (fun c => absurd c (by decide)) (fun _ => ?_)
                  refine g_aload_n dX10_sums_229 rfl 230 rfl rfl ?_
                  refine g_get (v := .ref 8) dX10_sums_230 233 rfl lX10_31 rfl rfl ?_
                  refine g_iload dX10_sums_233 235 rfl rfl ?_
                  refine g_iaload' (N := 512) dX10_sums_235 236 rfl rfl (vp_in_nI (by omega) (by decide)) (rX10_sumOf told s (nI i) sz) gup_s ?_
                  refine g_goto dX10_sums_236 241 rfl ?_
                  refine g_istore4 dX10_sums_241 243 rfl (by decide) rfl ?_
                  refine g_iload dX10_sums_243 245 rfl rfl ?_
                  refine g_if_eq dX10_sums_245 253 rfl 248 rfl (fun c => absurd c (by decide)) (fun _ => ?_)
                  refine g_iload dX10_sums_248 250 rfl rfl ?_
                  refine g_goto dX10_sums_250 255 rfl ?_
                  refine g_istore5 dX10_sums_255 257 rfl (by decide) rfl ?_
                  refine g_iinc6 dX10_sums_257 260 rfl 1 (by decide) (nI (i + 1)) (nI_add _ 1) (by decide) rfl ?_
                  refine g_goto dX10_sums_260 30 rfl ?_
                  refine g_fgt (L' := [.ref 0, .int what, .int (nI t), .int (u0 + 1), .int (rX10_sumOf told s (nI i) sz), .int ((rX10_sumOf told s (nI i) sz) - (told 1)), .int (nI (i + 1)), gF, gF, gF]) ⟨Or.inl rfl, Or.inl rfl, Or.inl rfl, Or.inl rfl, Or.inl rfl, Or.inl rfl, Or.inl rfl, Or.inr rfl, Or.inr rfl, Or.inr rfl, trivial⟩ ?_
                  have e : (fX10_sums_30 told s t sz) i (alone, u0, u1, u2) = ((gup alone (nI i) (rX10_sumOf told s (nI i) sz)), (u0 + 1), (rX10_sumOf told s (nI i) sz), ((rX10_sumOf told s (nI i) sz) - (told 1))) := by rw [fX10_sums_30, if_pos c1, if_neg c2, if_pos c12, if_pos c13, if_neg c14, if_pos c15, if_neg c16]
                  refine LX10_sums_30 hsz hs ht d (i + 1) (gup alone (nI i) (rX10_sumOf told s (nI i) sz)) (u0 + 1) (rX10_sumOf told s (nI i) sz) ((rX10_sumOf told s (nI i) sz) - (told 1)) (by omega) (by omega) ?_
                  rw [← e]
                  exact k
        · refine g_aload_n dX10_sums_140 rfl 141 rfl rfl ?_
          refine g_get (v := .ref 2) dX10_sums_141 144 rfl lX10_13 rfl rfl ?_
          refine g_iconst 1 dX10_sums_144 145 rfl (by decide) ?_
          refine g_iaload (N := 40) dX10_sums_145 146 rfl rfl (vp_in_iff.mpr (by decide)) ?_
          refine g_aload_n dX10_sums_146 rfl 147 rfl rfl ?_
          refine g_get (v := .ref 8) dX10_sums_147 150 rfl lX10_31 rfl rfl ?_
          refine g_iload dX10_sums_150 152 rfl rfl ?_
          refine g_iaload' (N := 512) dX10_sums_152 153 rfl rfl (vp_in_nI (by omega) (by decide)) (rX10_sumOf told s (nI i) sz) gup_s ?_
          refine g_isub dX10_sums_153 154 rfl ?_
          refine g_goto dX10_sums_154 171 rfl ?_
          refine g_istore8 dX10_sums_171 173 rfl (by decide) rfl ?_
          refine g_iload dX10_sums_173 175 rfl rfl ?_
          refine g_if_eq dX10_sums_175 208 rfl 178 rfl (fun c17 => ?_) (fun c17 => ?_)
          · replace c17 := gB_f c17
            refine g_iconst 0 dX10_sums_208 209 rfl (by decide) ?_
            refine g_istore9 dX10_sums_209 211 rfl (by decide) rfl ?_
            refine g_iload_n dX10_sums_211 rfl 212 rfl rfl ?_
            refine g_iload dX10_sums_212 214 rfl rfl ?_
            refine g_if_eq dX10_sums_214 221 rfl 217 rfl (fun _ => ?_) (fun c => absurd (gB_0 c17) c)
            refine g_iconst 0 dX10_sums_221 222 rfl (by decide) ?_
            refine g_iadd dX10_sums_222 223 rfl ?_
            refine g_istore3 dX10_sums_223 224 rfl (by decide) rfl ?_
            refine g_iload dX10_sums_224 226 rfl rfl ?_
            refine g_if_eq dX10_sums_226 239 rfl 229 rfl (fun _ => ?_) (fun c => absurd (by decide) c)
            refine g_iload dX10_sums_239 241 rfl rfl ?_
            refine g_istore4 dX10_sums_241 243 rfl (by decide) rfl ?_
            refine g_iload dX10_sums_243 245 rfl rfl ?_
            refine g_if_eq dX10_sums_245 253 rfl 248 rfl (fun _ => ?_) (fun c => absurd (by decide) c)
            refine g_iload dX10_sums_253 255 rfl rfl ?_
            refine g_istore5 dX10_sums_255 257 rfl (by decide) rfl ?_
            refine g_iinc6 dX10_sums_257 260 rfl 1 (by decide) (nI (i + 1)) (nI_add _ 1) (by decide) rfl ?_
            refine g_goto dX10_sums_260 30 rfl ?_
            refine g_fgt (L' := [.ref 0, .int what, .int (nI t), .int (u0 + 0), .int u1, .int u2, .int (nI (i + 1)), gF, gF, gF]) ⟨Or.inl rfl, Or.inl rfl, Or.inl rfl, Or.inl rfl, Or.inl rfl, Or.inl rfl, Or.inl rfl, Or.inr rfl, Or.inr rfl, Or.inr rfl, trivial⟩ ?_
            have e : (fX10_sums_30 told s t sz) i (alone, u0, u1, u2) = ((gup alone (nI i) (rX10_sumOf told s (nI i) sz)), (u0 + 0), u1, u2) := by rw [fX10_sums_30, if_pos c1, if_neg c2, if_neg c12, if_neg c17]
            refine LX10_sums_30 hsz hs ht d (i + 1) (gup alone (nI i) (rX10_sumOf told s (nI i) sz)) (u0 + 0) u1 u2 (by omega) (by omega) ?_
            rw [← e]
            exact k
          · replace c17 := gB_t c17
            refine g_iload dX10_sums_178 180 rfl rfl ?_
            refine g_iload dX10_sums_180 182 rfl rfl ?_
            refine g_icmp_lt dX10_sums_182 204 rfl 185 rfl (fun c18 => ?_) (fun c18 => ?_)
            · refine g_iconst 1 dX10_sums_204 205 rfl (by decide) ?_
              refine g_goto dX10_sums_205 209 rfl ?_
              refine g_istore9 dX10_sums_209 211 rfl (by decide) rfl ?_
              refine g_iload_n dX10_sums_211 rfl 212 rfl rfl ?_
              refine g_iload dX10_sums_212 214 rfl rfl ?_
              refine g_if_eq dX10_sums_214 221 rfl 217 rfl (fun c => absurd c (gB_1 c17)) (fun _ => ?_)
              refine g_iconst 1 dX10_sums_217 218 rfl (by decide) ?_
              refine g_goto dX10_sums_218 222 rfl ?_
              refine g_iadd dX10_sums_222 223 rfl ?_
              refine g_istore3 dX10_sums_223 224 rfl (by decide) rfl ?_
              refine g_iload dX10_sums_224 226 rfl rfl ?_
              refine g_if_eq dX10_sums_226 239 rfl 229 rfl (fun c => absurd c (by decide)) (fun _ => ?_)
              refine g_aload_n dX10_sums_229 rfl 230 rfl rfl ?_
              refine g_get (v := .ref 8) dX10_sums_230 233 rfl lX10_31 rfl rfl ?_
              refine g_iload dX10_sums_233 235 rfl rfl ?_
              refine g_iaload' (N := 512) dX10_sums_235 236 rfl rfl (vp_in_nI (by omega) (by decide)) (rX10_sumOf told s (nI i) sz) gup_s ?_
              refine g_goto dX10_sums_236 241 rfl ?_
              refine g_istore4 dX10_sums_241 243 rfl (by decide) rfl ?_
              refine g_iload dX10_sums_243 245 rfl rfl ?_
              refine g_if_eq dX10_sums_245 253 rfl 248 rfl (fun c => absurd c (by decide)) (fun _ => ?_)
              refine g_iload dX10_sums_248 250 rfl rfl ?_
              refine g_goto dX10_sums_250 255 rfl ?_
              refine g_istore5 dX10_sums_255 257 rfl (by decide) rfl ?_
              refine g_iinc6 dX10_sums_257 260 rfl 1 (by decide) (nI (i + 1)) (nI_add _ 1) (by decide) rfl ?_
              refine g_goto dX10_sums_260 30 rfl ?_
              refine g_fgt (L' := [.ref 0, .int what, .int (nI t), .int (u0 + 1), .int (rX10_sumOf told s (nI i) sz), .int ((told 1) - (rX10_sumOf told s (nI i) sz)), .int (nI (i + 1)), gF, gF, gF]) ⟨Or.inl rfl, Or.inl rfl, Or.inl rfl, Or.inl rfl, Or.inl rfl, Or.inl rfl, Or.inl rfl, Or.inr rfl, Or.inr rfl, Or.inr rfl, trivial⟩ ?_
              have e : (fX10_sums_30 told s t sz) i (alone, u0, u1, u2) = ((gup alone (nI i) (rX10_sumOf told s (nI i) sz)), (u0 + 1), (rX10_sumOf told s (nI i) sz), ((told 1) - (rX10_sumOf told s (nI i) sz))) := by rw [fX10_sums_30, if_pos c1, if_neg c2, if_neg c12, if_pos c17, if_pos c18]
              refine LX10_sums_30 hsz hs ht d (i + 1) (gup alone (nI i) (rX10_sumOf told s (nI i) sz)) (u0 + 1) (rX10_sumOf told s (nI i) sz) ((told 1) - (rX10_sumOf told s (nI i) sz)) (by omega) (by omega) ?_
              rw [← e]
              exact k
            · refine g_iload dX10_sums_185 187 rfl rfl ?_
              refine g_iload dX10_sums_187 189 rfl rfl ?_
              refine g_icmp_ne dX10_sums_189 208 rfl 192 rfl (fun c19 => ?_) (fun c19 => ?_)
              · refine g_iconst 0 dX10_sums_208 209 rfl (by decide) ?_
                refine g_istore9 dX10_sums_209 211 rfl (by decide) rfl ?_
                refine g_iload_n dX10_sums_211 rfl 212 rfl rfl ?_
                refine g_iload dX10_sums_212 214 rfl rfl ?_
                refine g_if_eq dX10_sums_214 221 rfl 217 rfl (fun c => absurd c (gB_1 c17)) (fun _ => ?_)
                refine g_iconst 1 dX10_sums_217 218 rfl (by decide) ?_
                refine g_goto dX10_sums_218 222 rfl ?_
                refine g_iadd dX10_sums_222 223 rfl ?_
                refine g_istore3 dX10_sums_223 224 rfl (by decide) rfl ?_
                refine g_iload dX10_sums_224 226 rfl rfl ?_
                refine g_if_eq dX10_sums_226 239 rfl 229 rfl (fun _ => ?_) (fun c => absurd (by decide) c)
                refine g_iload dX10_sums_239 241 rfl rfl ?_
                refine g_istore4 dX10_sums_241 243 rfl (by decide) rfl ?_
                refine g_iload dX10_sums_243 245 rfl rfl ?_
                refine g_if_eq dX10_sums_245 253 rfl 248 rfl (fun _ => ?_) (fun c => absurd (by decide) c)
                refine g_iload dX10_sums_253 255 rfl rfl ?_
                refine g_istore5 dX10_sums_255 257 rfl (by decide) rfl ?_
                refine g_iinc6 dX10_sums_257 260 rfl 1 (by decide) (nI (i + 1)) (nI_add _ 1) (by decide) rfl ?_
                refine g_goto dX10_sums_260 30 rfl ?_
                refine g_fgt (L' := [.ref 0, .int what, .int (nI t), .int (u0 + 1), .int u1, .int u2, .int (nI (i + 1)), gF, gF, gF]) ⟨Or.inl rfl, Or.inl rfl, Or.inl rfl, Or.inl rfl, Or.inl rfl, Or.inl rfl, Or.inl rfl, Or.inr rfl, Or.inr rfl, Or.inr rfl, trivial⟩ ?_
                have e : (fX10_sums_30 told s t sz) i (alone, u0, u1, u2) = ((gup alone (nI i) (rX10_sumOf told s (nI i) sz)), (u0 + 1), u1, u2) := by rw [fX10_sums_30, if_pos c1, if_neg c2, if_neg c12, if_pos c17, if_neg c18, if_neg c19]
                refine LX10_sums_30 hsz hs ht d (i + 1) (gup alone (nI i) (rX10_sumOf told s (nI i) sz)) (u0 + 1) u1 u2 (by omega) (by omega) ?_
                rw [← e]
                exact k
              · refine g_aload_n dX10_sums_192 rfl 193 rfl rfl ?_
                refine g_get (v := .ref 8) dX10_sums_193 196 rfl lX10_31 rfl rfl ?_
                refine g_iload dX10_sums_196 198 rfl rfl ?_
                refine g_iaload' (N := 512) dX10_sums_198 199 rfl rfl (vp_in_nI (by omega) (by decide)) (rX10_sumOf told s (nI i) sz) gup_s ?_
                refine g_iload dX10_sums_199 201 rfl rfl ?_
                refine g_icmp_ge dX10_sums_201 208 rfl 204 rfl (fun c20 => ?_) (fun c20 => ?_)
                · refine g_iconst 0 dX10_sums_208 209 rfl (by decide) ?_
                  refine g_istore9 dX10_sums_209 211 rfl (by decide) rfl ?_
                  refine g_iload_n dX10_sums_211 rfl 212 rfl rfl ?_
                  refine g_iload dX10_sums_212 214 rfl rfl ?_
                  refine g_if_eq dX10_sums_214 221 rfl 217 rfl (fun c => absurd c (gB_1 c17)) (fun _ => ?_)
                  refine g_iconst 1 dX10_sums_217 218 rfl (by decide) ?_
                  refine g_goto dX10_sums_218 222 rfl ?_
                  refine g_iadd dX10_sums_222 223 rfl ?_
                  refine g_istore3 dX10_sums_223 224 rfl (by decide) rfl ?_
                  refine g_iload dX10_sums_224 226 rfl rfl ?_
                  refine g_if_eq dX10_sums_226 239 rfl 229 rfl (fun _ => ?_) (fun c => absurd (by decide) c)
                  refine g_iload dX10_sums_239 241 rfl rfl ?_
                  refine g_istore4 dX10_sums_241 243 rfl (by decide) rfl ?_
                  refine g_iload dX10_sums_243 245 rfl rfl ?_
                  refine g_if_eq dX10_sums_245 253 rfl 248 rfl (fun _ => ?_) (fun c => absurd (by decide) c)
                  refine g_iload dX10_sums_253 255 rfl rfl ?_
                  refine g_istore5 dX10_sums_255 257 rfl (by decide) rfl ?_
                  refine g_iinc6 dX10_sums_257 260 rfl 1 (by decide) (nI (i + 1)) (nI_add _ 1) (by decide) rfl ?_
                  refine g_goto dX10_sums_260 30 rfl ?_
                  refine g_fgt (L' := [.ref 0, .int what, .int (nI t), .int (u0 + 1), .int u1, .int u2, .int (nI (i + 1)), gF, gF, gF]) ⟨Or.inl rfl, Or.inl rfl, Or.inl rfl, Or.inl rfl, Or.inl rfl, Or.inl rfl, Or.inl rfl, Or.inr rfl, Or.inr rfl, Or.inr rfl, trivial⟩ ?_
                  have e : (fX10_sums_30 told s t sz) i (alone, u0, u1, u2) = ((gup alone (nI i) (rX10_sumOf told s (nI i) sz)), (u0 + 1), u1, u2) := by rw [fX10_sums_30, if_pos c1, if_neg c2, if_neg c12, if_pos c17, if_neg c18, if_pos c19, if_pos c20]
                  refine LX10_sums_30 hsz hs ht d (i + 1) (gup alone (nI i) (rX10_sumOf told s (nI i) sz)) (u0 + 1) u1 u2 (by omega) (by omega) ?_
                  rw [← e]
                  exact k
                · refine g_iconst 1 dX10_sums_204 205 rfl (by decide) ?_
                  refine g_goto dX10_sums_205 209 rfl ?_
                  refine g_istore9 dX10_sums_209 211 rfl (by decide) rfl ?_
                  refine g_iload_n dX10_sums_211 rfl 212 rfl rfl ?_
                  refine g_iload dX10_sums_212 214 rfl rfl ?_
                  refine g_if_eq dX10_sums_214 221 rfl 217 rfl (fun c => absurd c (gB_1 c17)) (fun _ => ?_)
                  refine g_iconst 1 dX10_sums_217 218 rfl (by decide) ?_
                  refine g_goto dX10_sums_218 222 rfl ?_
                  refine g_iadd dX10_sums_222 223 rfl ?_
                  refine g_istore3 dX10_sums_223 224 rfl (by decide) rfl ?_
                  refine g_iload dX10_sums_224 226 rfl rfl ?_
                  refine g_if_eq dX10_sums_226 239 rfl 229 rfl (fun c => absurd c (by decide)) (fun _ => ?_)
                  refine g_aload_n dX10_sums_229 rfl 230 rfl rfl ?_
                  refine g_get (v := .ref 8) dX10_sums_230 233 rfl lX10_31 rfl rfl ?_
                  refine g_iload dX10_sums_233 235 rfl rfl ?_
                  refine g_iaload' (N := 512) dX10_sums_235 236 rfl rfl (vp_in_nI (by omega) (by decide)) (rX10_sumOf told s (nI i) sz) gup_s ?_
                  refine g_goto dX10_sums_236 241 rfl ?_
                  refine g_istore4 dX10_sums_241 243 rfl (by decide) rfl ?_
                  refine g_iload dX10_sums_243 245 rfl rfl ?_
                  refine g_if_eq dX10_sums_245 253 rfl 248 rfl (fun c => absurd c (by decide)) (fun _ => ?_)
                  refine g_iload dX10_sums_248 250 rfl rfl ?_
                  refine g_goto dX10_sums_250 255 rfl ?_
                  refine g_istore5 dX10_sums_255 257 rfl (by decide) rfl ?_
                  refine g_iinc6 dX10_sums_257 260 rfl 1 (by decide) (nI (i + 1)) (nI_add _ 1) (by decide) rfl ?_
                  refine g_goto dX10_sums_260 30 rfl ?_
                  refine g_fgt (L' := [.ref 0, .int what, .int (nI t), .int (u0 + 1), .int (rX10_sumOf told s (nI i) sz), .int ((told 1) - (rX10_sumOf told s (nI i) sz)), .int (nI (i + 1)), gF, gF, gF]) ⟨Or.inl rfl, Or.inl rfl, Or.inl rfl, Or.inl rfl, Or.inl rfl, Or.inl rfl, Or.inl rfl, Or.inr rfl, Or.inr rfl, Or.inr rfl, trivial⟩ ?_
                  have e : (fX10_sums_30 told s t sz) i (alone, u0, u1, u2) = ((gup alone (nI i) (rX10_sumOf told s (nI i) sz)), (u0 + 1), (rX10_sumOf told s (nI i) sz), ((told 1) - (rX10_sumOf told s (nI i) sz))) := by rw [fX10_sums_30, if_pos c1, if_neg c2, if_neg c12, if_pos c17, if_neg c18, if_pos c19, if_neg c20]
                  refine LX10_sums_30 hsz hs ht d (i + 1) (gup alone (nI i) (rX10_sumOf told s (nI i) sz)) (u0 + 1) (rX10_sumOf told s (nI i) sz) ((told 1) - (rX10_sumOf told s (nI i) sz)) (by omega) (by omega) ?_
                  rw [← e]
                  exact k
def rX10_sums (told : Int32 → Int32) (s : Int32 → Int32) (alone : Int32 → Int32) (what : Int32) (sz : Nat) : Int32 × (Int32 → Int32) := (if (rX10_in what 0 1) = true then (if what = 0 then (((gLp (fX10_sums_30 told s (tP told s sz) sz) ((tP told s sz) + 1 - 1) 1 (alone, 0, (-4), 9999)).2.1), ((gLp (fX10_sums_30 told s (tP told s sz) sz) ((tP told s sz) + 1 - 1) 1 (alone, 0, (-4), 9999)).1)) else (((gLp (fX10_sums_30 told s (tP told s sz) sz) ((tP told s sz) + 1 - 1) 1 (alone, 0, (-4), 9999)).2.2.1), ((gLp (fX10_sums_30 told s (tP told s sz) sz) ((tP told s sz) + 1 - 1) 1 (alone, 0, (-4), 9999)).1))) else ((-1), alone))
set_option maxRecDepth 100000 in
set_option maxHeartbeats 4000000 in
theorem MX10_sums {w : gW} {al : Bool} {typed known kept noted at_ : Int32} {text told draft s past images notes alone parts held : Int32 → Int32} {sz : Nat} (what : Int32) (hsz : told 0 = nI sz) (hs : sz ≤ 9)  : M w gT0 al mX10_sums 0 0 (hM text typed told draft s past known images kept notes noted at_ alone parts held) [.ref 0, .int what] (gEq (hM text typed told draft s past known images kept notes noted at_ ((rX10_sums told s alone what sz).2) parts held) (some (.int ((rX10_sums told s alone what sz).1)))) := by
  refine M.of (L0 := [.ref 0, .int what, gF, gF, gF, gF, gF, gF, gF, gF]) (by decide +kernel) (Nat.le_of_ble_eq_true rfl) rfl ?_
  refine g_iload_n dX10_sums_0 rfl 1 rfl rfl ?_
  refine g_iconst 0 dX10_sums_1 2 rfl (by decide) ?_
  refine g_iconst 1 dX10_sums_2 3 rfl (by decide) ?_
  refine g_cSv (as := [.int what, .int 0, .int 1]) (st := []) dX10_sums_3 6 rfl kX10_50 ⟨Nat.le_of_ble_eq_true rfl, Nat.le_of_ble_eq_true rfl⟩ (MX10_in what 0 1) rfl (Nat.le_of_ble_eq_true rfl) (Nat.le_refl _) (Nat.le_refl _) ?_
  refine g_if_ne dX10_sums_6 11 rfl 9 rfl (fun c1 => ?_) (fun c1 => ?_)
  · replace c1 := gB_t c1
    refine g_aload_n dX10_sums_11 rfl 12 rfl rfl ?_
    refine g_cVv (as := []) (st := []) dX10_sums_12 15 rfl kX10_116 ⟨Nat.le_of_ble_eq_true rfl, Nat.le_of_ble_eq_true rfl⟩ (MX10_present' hsz hs) rfl rfl rfl rfl (Nat.le_of_ble_eq_true rfl) (Nat.le_refl _) (Nat.le_refl _) ?_
    refine g_istore2 dX10_sums_15 16 rfl (by decide) rfl ?_
    refine g_iconst 0 dX10_sums_16 17 rfl (by decide) ?_
    refine g_istore3 dX10_sums_17 18 rfl (by decide) rfl ?_
    refine g_bipush (-4) dX10_sums_18 20 rfl (by decide) ?_
    refine g_istore4 dX10_sums_20 22 rfl (by decide) rfl ?_
    refine g_sipush 9999 dX10_sums_22 25 rfl (by decide) ?_
    refine g_istore5 dX10_sums_25 27 rfl (by decide) rfl ?_
    refine g_iconst 1 dX10_sums_27 28 rfl (by decide) ?_
    refine g_istore6 dX10_sums_28 30 rfl (by decide) rfl ?_
    refine LX10_sums_30 hsz hs (tP_512 _ _ hs) ((tP told s sz) + 1 - 1) 1 alone 0 (-4) 9999 (by omega) (by omega) ?_
    refine g_iload_n dX10_sums_263 rfl 264 rfl rfl ?_
    refine g_if_ne dX10_sums_264 271 rfl 267 rfl (fun c2 => ?_) (fun c2 => ?_)
    · refine g_iload dX10_sums_271 273 rfl rfl ?_
      refine g_ireturn dX10_sums_273 rfl rfl (Nat.le_refl _) (Nat.le_refl _) ?_
      have e : (rX10_sums told s alone what sz) = (((gLp (fX10_sums_30 told s (tP told s sz) sz) ((tP told s sz) + 1 - 1) 1 (alone, 0, (-4), 9999)).2.2.1), ((gLp (fX10_sums_30 told s (tP told s sz) sz) ((tP told s sz) + 1 - 1) 1 (alone, 0, (-4), 9999)).1)) := by rw [rX10_sums, if_pos c1, if_neg c2]
      rw [e]
      exact ⟨rfl, rfl⟩
    · refine g_iload_n dX10_sums_267 rfl 268 rfl rfl ?_
      refine g_goto dX10_sums_268 273 rfl ?_
      refine g_ireturn dX10_sums_273 rfl rfl (Nat.le_refl _) (Nat.le_refl _) ?_
      have e : (rX10_sums told s alone what sz) = (((gLp (fX10_sums_30 told s (tP told s sz) sz) ((tP told s sz) + 1 - 1) 1 (alone, 0, (-4), 9999)).2.1), ((gLp (fX10_sums_30 told s (tP told s sz) sz) ((tP told s sz) + 1 - 1) 1 (alone, 0, (-4), 9999)).1)) := by rw [rX10_sums, if_pos c1, if_pos c2]
      rw [e]
      exact ⟨rfl, rfl⟩
  · replace c1 := gB_f c1
    refine g_iconst (-1) dX10_sums_9 10 rfl (by decide) ?_
    refine g_ireturn dX10_sums_10 rfl rfl (Nat.le_refl _) (Nat.le_refl _) ?_
    have e : (rX10_sums told s alone what sz) = ((-1), alone) := by rw [rX10_sums, if_neg c1]
    rw [e]
    exact ⟨rfl, rfl⟩
