/-! the reference: who is where, what a set counts and costs -/
def rX10_present (told : Int32 → Int32) (s : Int32 → Int32) (sz : Nat) : Int32 := ((rX10_allAt told s 1 sz) ||| (rX10_allAt told s 2 sz))
set_option maxRecDepth 100000 in
set_option maxHeartbeats 4000000 in
theorem MX10_present {w : gW} {al : Bool} {typed known kept noted at_ : Int32} {text told draft s past images notes alone parts held : Int32 → Int32} {sz : Nat} (hsz : told 0 = nI sz) (hs : sz ≤ 9)  : M w gT0 al mX10_present 0 0 (hM text typed told draft s past known images kept notes noted at_ alone parts held) [.ref 0] (gEq (hM text typed told draft s past known images kept notes noted at_ alone parts held) (some (.int (rX10_present told s sz)))) := by
  refine M.of (L0 := [.ref 0]) (by decide +kernel) (Nat.le_of_ble_eq_true rfl) rfl ?_
  refine g_aload_n dX10_present_0 rfl 1 rfl rfl ?_
  refine g_iconst 1 dX10_present_1 2 rfl (by decide) ?_
  refine g_cVv (as := [.int 1]) (st := []) dX10_present_2 5 rfl kX10_92 ⟨Nat.le_of_ble_eq_true rfl, Nat.le_of_ble_eq_true rfl⟩ (MX10_allAt 1 hsz hs) rfl rfl rfl rfl (Nat.le_of_ble_eq_true rfl) (Nat.le_refl _) (Nat.le_refl _) ?_
  refine g_aload_n dX10_present_5 rfl 6 rfl rfl ?_
  refine g_iconst 2 dX10_present_6 7 rfl (by decide) ?_
  refine g_cVv (as := [.int 2]) (st := [.int (rX10_allAt told s 1 sz)]) dX10_present_7 10 rfl kX10_92 ⟨Nat.le_of_ble_eq_true rfl, Nat.le_of_ble_eq_true rfl⟩ (MX10_allAt 2 hsz hs) rfl rfl rfl rfl (Nat.le_of_ble_eq_true rfl) (Nat.le_refl _) (Nat.le_refl _) ?_
  refine g_ior dX10_present_10 11 rfl ?_
  refine g_ireturn dX10_present_11 rfl rfl (Nat.le_refl _) (Nat.le_refl _) ?_
  have e : (rX10_present told s sz) = ((rX10_allAt told s 1 sz) ||| (rX10_allAt told s 2 sz)) := by rw [rX10_present]
  rw [e]
  exact ⟨rfl, rfl⟩
def rX10_alive (told : Int32 → Int32) (s : Int32 → Int32) (sz : Nat) : Int32 := ((((1 <<< ((told 0) &&& 31)) - 1) &&& ((rX10_allAt told s 3 sz) ^^^ (-1))) &&& ((rX10_allAt told s 4 sz) ^^^ (-1)))
set_option maxRecDepth 100000 in
set_option maxHeartbeats 4000000 in
theorem MX10_alive {w : gW} {al : Bool} {typed known kept noted at_ : Int32} {text told draft s past images notes alone parts held : Int32 → Int32} {sz : Nat} (hsz : told 0 = nI sz) (hs : sz ≤ 9)  : M w gT0 al mX10_alive 0 0 (hM text typed told draft s past known images kept notes noted at_ alone parts held) [.ref 0] (gEq (hM text typed told draft s past known images kept notes noted at_ alone parts held) (some (.int (rX10_alive told s sz)))) := by
  refine M.of (L0 := [.ref 0]) (by decide +kernel) (Nat.le_of_ble_eq_true rfl) rfl ?_
  refine g_iconst 1 dX10_alive_0 1 rfl (by decide) ?_
  refine g_aload_n dX10_alive_1 rfl 2 rfl rfl ?_
  refine g_get (v := .ref 2) dX10_alive_2 5 rfl lX10_13 rfl rfl ?_
  refine g_iconst 0 dX10_alive_5 6 rfl (by decide) ?_
  refine g_iaload (N := 40) dX10_alive_6 7 rfl rfl (vp_in_iff.mpr (by decide)) ?_
  refine g_ishl dX10_alive_7 8 rfl ?_
  refine g_iconst 1 dX10_alive_8 9 rfl (by decide) ?_
  refine g_isub dX10_alive_9 10 rfl ?_
  refine g_aload_n dX10_alive_10 rfl 11 rfl rfl ?_
  refine g_iconst 3 dX10_alive_11 12 rfl (by decide) ?_
  refine g_cVv (as := [.int 3]) (st := [.int ((1 <<< ((told 0) &&& 31)) - 1)]) dX10_alive_12 15 rfl kX10_92 ⟨Nat.le_of_ble_eq_true rfl, Nat.le_of_ble_eq_true rfl⟩ (MX10_allAt 3 hsz hs) rfl rfl rfl rfl (Nat.le_of_ble_eq_true rfl) (Nat.le_refl _) (Nat.le_refl _) ?_
  refine g_iconst (-1) dX10_alive_15 16 rfl (by decide) ?_
  refine g_ixor dX10_alive_16 17 rfl ?_
  refine g_iand dX10_alive_17 18 rfl ?_
  refine g_aload_n dX10_alive_18 rfl 19 rfl rfl ?_
  refine g_iconst 4 dX10_alive_19 20 rfl (by decide) ?_
  refine g_cVv (as := [.int 4]) (st := [.int (((1 <<< ((told 0) &&& 31)) - 1) &&& ((rX10_allAt told s 3 sz) ^^^ (-1)))]) dX10_alive_20 23 rfl kX10_92 ⟨Nat.le_of_ble_eq_true rfl, Nat.le_of_ble_eq_true rfl⟩ (MX10_allAt 4 hsz hs) rfl rfl rfl rfl (Nat.le_of_ble_eq_true rfl) (Nat.le_refl _) (Nat.le_refl _) ?_
  refine g_iconst (-1) dX10_alive_23 24 rfl (by decide) ?_
  refine g_ixor dX10_alive_24 25 rfl ?_
  refine g_iand dX10_alive_25 26 rfl ?_
  refine g_ireturn dX10_alive_26 rfl rfl (Nat.le_refl _) (Nat.le_refl _) ?_
  have e : (rX10_alive told s sz) = ((((1 <<< ((told 0) &&& 31)) - 1) &&& ((rX10_allAt told s 3 sz) ^^^ (-1))) &&& ((rX10_allAt told s 4 sz) ^^^ (-1))) := by rw [rX10_alive]
  rw [e]
  exact ⟨rfl, rfl⟩
def rX10_coinsOf (told : Int32 → Int32) (s : Int32 → Int32) (bits : Int32) (sz : Nat) : Int32 := ((told 3) * ((rX10_sumOf told s bits sz) - (told 1)))
set_option maxRecDepth 100000 in
set_option maxHeartbeats 4000000 in
theorem MX10_coinsOf {w : gW} {al : Bool} {typed known kept noted at_ : Int32} {text told draft s past images notes alone parts held : Int32 → Int32} {sz : Nat} (bits : Int32) (hsz : told 0 = nI sz) (hs : sz ≤ 9)  : M w gT0 al mX10_coinsOf 0 0 (hM text typed told draft s past known images kept notes noted at_ alone parts held) [.ref 0, .int bits] (gEq (hM text typed told draft s past known images kept notes noted at_ alone parts held) (some (.int (rX10_coinsOf told s bits sz)))) := by
  refine M.of (L0 := [.ref 0, .int bits]) (by decide +kernel) (Nat.le_of_ble_eq_true rfl) rfl ?_
  refine g_aload_n dX10_coinsOf_0 rfl 1 rfl rfl ?_
  refine g_get (v := .ref 2) dX10_coinsOf_1 4 rfl lX10_13 rfl rfl ?_
  refine g_iconst 3 dX10_coinsOf_4 5 rfl (by decide) ?_
  refine g_iaload (N := 40) dX10_coinsOf_5 6 rfl rfl (vp_in_iff.mpr (by decide)) ?_
  refine g_aload_n dX10_coinsOf_6 rfl 7 rfl rfl ?_
  refine g_iload_n dX10_coinsOf_7 rfl 8 rfl rfl ?_
  refine g_cVv (as := [.int bits]) (st := [.int (told 3)]) dX10_coinsOf_8 11 rfl kX10_101 ⟨Nat.le_of_ble_eq_true rfl, Nat.le_of_ble_eq_true rfl⟩ (MX10_sumOf bits hsz hs) rfl rfl rfl rfl (Nat.le_of_ble_eq_true rfl) (Nat.le_refl _) (Nat.le_refl _) ?_
  refine g_aload_n dX10_coinsOf_11 rfl 12 rfl rfl ?_
  refine g_get (v := .ref 2) dX10_coinsOf_12 15 rfl lX10_13 rfl rfl ?_
  refine g_iconst 1 dX10_coinsOf_15 16 rfl (by decide) ?_
  refine g_iaload (N := 40) dX10_coinsOf_16 17 rfl rfl (vp_in_iff.mpr (by decide)) ?_
  refine g_isub dX10_coinsOf_17 18 rfl ?_
  refine g_imul dX10_coinsOf_18 19 rfl ?_
  refine g_ireturn dX10_coinsOf_19 rfl rfl (Nat.le_refl _) (Nat.le_refl _) ?_
  have e : (rX10_coinsOf told s bits sz) = ((told 3) * ((rX10_sumOf told s bits sz) - (told 1))) := by rw [rX10_coinsOf]
  rw [e]
  exact ⟨rfl, rfl⟩
def fX10_sails_24 (told : Int32 → Int32) (bits : Int32) (alive : Int32) (p : Nat) : Nat → (Bool) → (Bool)
  | i, u0 => (if (told (nI (31 + p))) ≤ 0 then (if u0 = true then true else false) else (if (told (nI (31 + p))) = (told (nI (31 + i))) then (if ((alive >>> ((nI i) &&& 31)) &&& 1) = 1 then (if u0 = true then (if ((bits >>> ((nI p) &&& 31)) &&& 1) = 1 then (if ((bits >>> ((nI i) &&& 31)) &&& 1) = 0 then false else true) else true) else false) else (if u0 = true then true else false)) else (if u0 = true then true else false)))
set_option maxRecDepth 100000 in
set_option maxHeartbeats 4000000 in
theorem LX10_sails_24 {w : gW} {al : Bool} {typed known kept noted at_ : Int32} {text told draft s past images notes alone parts held : Int32 → Int32} {n : Nat} {P : gP} {sz : Nat} {bits : Int32} {alive : Int32} {p : Nat} (hsz : told 0 = nI sz) (hs : sz ≤ 9) (hp : p < sz)  : ∀ (d i : Nat) (u0 : Bool), i + d = sz → G w gT0 al n mX10_sails 0 0 P 0 0 (hM text typed told draft s past known images kept notes noted at_ alone parts held) 128 [.ref 0, .int bits, .int alive, .int (gB (gLp (fX10_sails_24 told bits alive p) d i u0)), .int (nI p), .int (nI sz), gF] [] → G w gT0 al n mX10_sails 0 0 P 0 0 (hM text typed told draft s past known images kept notes noted at_ alone parts held) 24 [.ref 0, .int bits, .int alive, .int (gB u0), .int (nI p), .int (nI i), gF] []
  | 0, i, u0, hi, k => by
    have hN : i = sz := by omega
    rw [hN]
    rw [hN] at k
    refine g_iload dX10_sails_24 26 rfl rfl ?_
    refine g_aload_n dX10_sails_26 rfl 27 rfl rfl ?_
    refine g_get (v := .ref 2) dX10_sails_27 30 rfl lX10_13 rfl rfl ?_
    refine g_iconst 0 dX10_sails_30 31 rfl (by decide) ?_
    refine g_iaload (N := 40) dX10_sails_31 32 rfl rfl (vp_in_iff.mpr (by decide)) ?_
    refine g_icmp_ge dX10_sails_32 128 rfl 35 rfl (fun _ => ?_) (fun c => absurd (by rw [hsz]; exact nI_le (Nat.le_refl _) (by omega)) c)
    exact k
  | d + 1, i, u0, hi, k => by
    refine g_iload dX10_sails_24 26 rfl rfl ?_
    refine g_aload_n dX10_sails_26 rfl 27 rfl rfl ?_
    refine g_get (v := .ref 2) dX10_sails_27 30 rfl lX10_13 rfl rfl ?_
    refine g_iconst 0 dX10_sails_30 31 rfl (by decide) ?_
    refine g_iaload (N := 40) dX10_sails_31 32 rfl rfl (vp_in_iff.mpr (by decide)) ?_
    refine g_icmp_ge dX10_sails_32 128 rfl 35 rfl (fun c => absurd c (by rw [hsz]; exact nI_ge (by omega) (by omega))) (fun _ => ?_)
    refine g_aload_n dX10_sails_35 rfl 36 rfl rfl ?_
    refine g_get (v := .ref 2) dX10_sails_36 39 rfl lX10_13 rfl rfl ?_
    refine g_bipush 31 dX10_sails_39 41 rfl (by decide) ?_
    refine g_iload dX10_sails_41 43 rfl rfl ?_
    refine g_iadd' dX10_sails_43 44 rfl (nI (31 + p)) (nI_add 31 _) ?_
    refine g_iaload (N := 40) dX10_sails_44 45 rfl rfl (vp_in_nI (by omega) (by decide)) ?_
    refine g_if_le dX10_sails_45 85 rfl 48 rfl (fun c1 => ?_) (fun c1 => ?_)
    · refine g_iconst 0 dX10_sails_85 86 rfl (by decide) ?_
      refine g_istore6 dX10_sails_86 88 rfl (by decide) rfl ?_
      refine g_iload_n dX10_sails_88 rfl 89 rfl rfl ?_
      refine g_if_eq dX10_sails_89 120 rfl 92 rfl (fun c2 => ?_) (fun c2 => ?_)
      · replace c2 := gB_f c2
        refine g_iconst 0 dX10_sails_120 121 rfl (by decide) ?_
        refine g_istore3 dX10_sails_121 122 rfl (by decide) rfl ?_
        refine g_iinc5 dX10_sails_122 125 rfl 1 (by decide) (nI (i + 1)) (nI_add _ 1) (by decide) rfl ?_
        refine g_goto dX10_sails_125 24 rfl ?_
        refine g_fgt (L' := [.ref 0, .int bits, .int alive, .int (gB false), .int (nI p), .int (nI (i + 1)), gF]) ⟨Or.inl rfl, Or.inl rfl, Or.inl rfl, Or.inl rfl, Or.inl rfl, Or.inl rfl, Or.inr rfl, trivial⟩ ?_
        have e : (fX10_sails_24 told bits alive p) i u0 = false := by rw [fX10_sails_24, if_pos c1, if_neg c2]
        refine LX10_sails_24 hsz hs hp d (i + 1) false (by omega) ?_
        rw [← e]
        exact k
      · replace c2 := gB_t c2
        refine g_iload dX10_sails_92 94 rfl rfl ?_
        refine g_if_eq dX10_sails_94 116 rfl 97 rfl (fun _ => ?_) (fun c => absurd (by decide) c)
        refine g_iconst 1 dX10_sails_116 117 rfl (by decide) ?_
        refine g_goto dX10_sails_117 121 rfl ?_
        refine g_istore3 dX10_sails_121 122 rfl (by decide) rfl ?_
        refine g_iinc5 dX10_sails_122 125 rfl 1 (by decide) (nI (i + 1)) (nI_add _ 1) (by decide) rfl ?_
        refine g_goto dX10_sails_125 24 rfl ?_
        refine g_fgt (L' := [.ref 0, .int bits, .int alive, .int (gB true), .int (nI p), .int (nI (i + 1)), gF]) ⟨Or.inl rfl, Or.inl rfl, Or.inl rfl, Or.inl rfl, Or.inl rfl, Or.inl rfl, Or.inr rfl, trivial⟩ ?_
        have e : (fX10_sails_24 told bits alive p) i u0 = true := by rw [fX10_sails_24, if_pos c1, if_pos c2]
        refine LX10_sails_24 hsz hs hp d (i + 1) true (by omega) ?_
        rw [← e]
        exact k
    · refine g_aload_n dX10_sails_48 rfl 49 rfl rfl ?_
      refine g_get (v := .ref 2) dX10_sails_49 52 rfl lX10_13 rfl rfl ?_
      refine g_bipush 31 dX10_sails_52 54 rfl (by decide) ?_
      refine g_iload dX10_sails_54 56 rfl rfl ?_
      refine g_iadd' dX10_sails_56 57 rfl (nI (31 + p)) (nI_add 31 _) ?_
      refine g_iaload (N := 40) dX10_sails_57 58 rfl rfl (vp_in_nI (by omega) (by decide)) ?_
      refine g_aload_n dX10_sails_58 rfl 59 rfl rfl ?_
      refine g_get (v := .ref 2) dX10_sails_59 62 rfl lX10_13 rfl rfl ?_
      refine g_bipush 31 dX10_sails_62 64 rfl (by decide) ?_
      refine g_iload dX10_sails_64 66 rfl rfl ?_
      refine g_iadd' dX10_sails_66 67 rfl (nI (31 + i)) (nI_add 31 _) ?_
      refine g_iaload (N := 40) dX10_sails_67 68 rfl rfl (vp_in_nI (by omega) (by decide)) ?_
      refine g_icmp_ne dX10_sails_68 85 rfl 71 rfl (fun c3 => ?_) (fun c3 => ?_)
      · refine g_iconst 0 dX10_sails_85 86 rfl (by decide) ?_
        refine g_istore6 dX10_sails_86 88 rfl (by decide) rfl ?_
        refine g_iload_n dX10_sails_88 rfl 89 rfl rfl ?_
        refine g_if_eq dX10_sails_89 120 rfl 92 rfl (fun c9 => ?_) (fun c9 => ?_)
        · replace c9 := gB_f c9
          refine g_iconst 0 dX10_sails_120 121 rfl (by decide) ?_
          refine g_istore3 dX10_sails_121 122 rfl (by decide) rfl ?_
          refine g_iinc5 dX10_sails_122 125 rfl 1 (by decide) (nI (i + 1)) (nI_add _ 1) (by decide) rfl ?_
          refine g_goto dX10_sails_125 24 rfl ?_
          refine g_fgt (L' := [.ref 0, .int bits, .int alive, .int (gB false), .int (nI p), .int (nI (i + 1)), gF]) ⟨Or.inl rfl, Or.inl rfl, Or.inl rfl, Or.inl rfl, Or.inl rfl, Or.inl rfl, Or.inr rfl, trivial⟩ ?_
          have e : (fX10_sails_24 told bits alive p) i u0 = false := by rw [fX10_sails_24, if_neg c1, if_neg c3, if_neg c9]
          refine LX10_sails_24 hsz hs hp d (i + 1) false (by omega) ?_
          rw [← e]
          exact k
        · replace c9 := gB_t c9
          refine g_iload dX10_sails_92 94 rfl rfl ?_
          refine g_if_eq dX10_sails_94 116 rfl 97 rfl (fun _ => ?_) (fun c => absurd (by decide) c)
          refine g_iconst 1 dX10_sails_116 117 rfl (by decide) ?_
          refine g_goto dX10_sails_117 121 rfl ?_
          refine g_istore3 dX10_sails_121 122 rfl (by decide) rfl ?_
          refine g_iinc5 dX10_sails_122 125 rfl 1 (by decide) (nI (i + 1)) (nI_add _ 1) (by decide) rfl ?_
          refine g_goto dX10_sails_125 24 rfl ?_
          refine g_fgt (L' := [.ref 0, .int bits, .int alive, .int (gB true), .int (nI p), .int (nI (i + 1)), gF]) ⟨Or.inl rfl, Or.inl rfl, Or.inl rfl, Or.inl rfl, Or.inl rfl, Or.inl rfl, Or.inr rfl, trivial⟩ ?_
          have e : (fX10_sails_24 told bits alive p) i u0 = true := by rw [fX10_sails_24, if_neg c1, if_neg c3, if_pos c9]
          refine LX10_sails_24 hsz hs hp d (i + 1) true (by omega) ?_
          rw [← e]
          exact k
      · refine g_iload_n dX10_sails_71 rfl 72 rfl rfl ?_
        refine g_iload dX10_sails_72 74 rfl rfl ?_
        refine g_ishr dX10_sails_74 75 rfl ?_
        refine g_iconst 1 dX10_sails_75 76 rfl (by decide) ?_
        refine g_iand dX10_sails_76 77 rfl ?_
        refine g_iconst 1 dX10_sails_77 78 rfl (by decide) ?_
        refine g_icmp_ne dX10_sails_78 85 rfl 81 rfl (fun c4 => ?_) (fun c4 => ?_)
        · refine g_iconst 0 dX10_sails_85 86 rfl (by decide) ?_
          refine g_istore6 dX10_sails_86 88 rfl (by decide) rfl ?_
          refine g_iload_n dX10_sails_88 rfl 89 rfl rfl ?_
          refine g_if_eq dX10_sails_89 120 rfl 92 rfl (fun c8 => ?_) (fun c8 => ?_)
          · replace c8 := gB_f c8
            refine g_iconst 0 dX10_sails_120 121 rfl (by decide) ?_
            refine g_istore3 dX10_sails_121 122 rfl (by decide) rfl ?_
            refine g_iinc5 dX10_sails_122 125 rfl 1 (by decide) (nI (i + 1)) (nI_add _ 1) (by decide) rfl ?_
            refine g_goto dX10_sails_125 24 rfl ?_
            refine g_fgt (L' := [.ref 0, .int bits, .int alive, .int (gB false), .int (nI p), .int (nI (i + 1)), gF]) ⟨Or.inl rfl, Or.inl rfl, Or.inl rfl, Or.inl rfl, Or.inl rfl, Or.inl rfl, Or.inr rfl, trivial⟩ ?_
            have e : (fX10_sails_24 told bits alive p) i u0 = false := by rw [fX10_sails_24, if_neg c1, if_pos c3, if_neg c4, if_neg c8]
            refine LX10_sails_24 hsz hs hp d (i + 1) false (by omega) ?_
            rw [← e]
            exact k
          · replace c8 := gB_t c8
            refine g_iload dX10_sails_92 94 rfl rfl ?_
            refine g_if_eq dX10_sails_94 116 rfl 97 rfl (fun _ => ?_) (fun c => absurd (by decide) c)
            refine g_iconst 1 dX10_sails_116 117 rfl (by decide) ?_
            refine g_goto dX10_sails_117 121 rfl ?_
            refine g_istore3 dX10_sails_121 122 rfl (by decide) rfl ?_
            refine g_iinc5 dX10_sails_122 125 rfl 1 (by decide) (nI (i + 1)) (nI_add _ 1) (by decide) rfl ?_
            refine g_goto dX10_sails_125 24 rfl ?_
            refine g_fgt (L' := [.ref 0, .int bits, .int alive, .int (gB true), .int (nI p), .int (nI (i + 1)), gF]) ⟨Or.inl rfl, Or.inl rfl, Or.inl rfl, Or.inl rfl, Or.inl rfl, Or.inl rfl, Or.inr rfl, trivial⟩ ?_
            have e : (fX10_sails_24 told bits alive p) i u0 = true := by rw [fX10_sails_24, if_neg c1, if_pos c3, if_neg c4, if_pos c8]
            refine LX10_sails_24 hsz hs hp d (i + 1) true (by omega) ?_
            rw [← e]
            exact k
        · refine g_iconst 1 dX10_sails_81 82 rfl (by decide) ?_
          refine g_goto dX10_sails_82 86 rfl ?_
          refine g_istore6 dX10_sails_86 88 rfl (by decide) rfl ?_
          refine g_iload_n dX10_sails_88 rfl 89 rfl rfl ?_
          refine g_if_eq dX10_sails_89 120 rfl 92 rfl (fun c5 => ?_) (fun c5 => ?_)
          · replace c5 := gB_f c5
            refine g_iconst 0 dX10_sails_120 121 rfl (by decide) ?_
            refine g_istore3 dX10_sails_121 122 rfl (by decide) rfl ?_
            refine g_iinc5 dX10_sails_122 125 rfl 1 (by decide) (nI (i + 1)) (nI_add _ 1) (by decide) rfl ?_
            refine g_goto dX10_sails_125 24 rfl ?_
            refine g_fgt (L' := [.ref 0, .int bits, .int alive, .int (gB false), .int (nI p), .int (nI (i + 1)), gF]) ⟨Or.inl rfl, Or.inl rfl, Or.inl rfl, Or.inl rfl, Or.inl rfl, Or.inl rfl, Or.inr rfl, trivial⟩ ?_
            have e : (fX10_sails_24 told bits alive p) i u0 = false := by rw [fX10_sails_24, if_neg c1, if_pos c3, if_pos c4, if_neg c5]
            refine LX10_sails_24 hsz hs hp d (i + 1) false (by omega) ?_
            rw [← e]
            exact k
          · replace c5 := gB_t c5
            refine g_iload dX10_sails_92 94 rfl rfl ?_
            refine g_if_eq dX10_sails_94 116 rfl 97 rfl (fun c => absurd c (by decide)) (fun _ => ?_)
            refine g_iload_n dX10_sails_97 rfl 98 rfl rfl ?_
            refine g_iload dX10_sails_98 100 rfl rfl ?_
            refine g_ishr dX10_sails_100 101 rfl ?_
            refine g_iconst 1 dX10_sails_101 102 rfl (by decide) ?_
            refine g_iand dX10_sails_102 103 rfl ?_
            refine g_iconst 1 dX10_sails_103 104 rfl (by decide) ?_
            refine g_icmp_ne dX10_sails_104 116 rfl 107 rfl (fun c6 => ?_) (fun c6 => ?_)
            · refine g_iconst 1 dX10_sails_116 117 rfl (by decide) ?_
              refine g_goto dX10_sails_117 121 rfl ?_
              refine g_istore3 dX10_sails_121 122 rfl (by decide) rfl ?_
              refine g_iinc5 dX10_sails_122 125 rfl 1 (by decide) (nI (i + 1)) (nI_add _ 1) (by decide) rfl ?_
              refine g_goto dX10_sails_125 24 rfl ?_
              refine g_fgt (L' := [.ref 0, .int bits, .int alive, .int (gB true), .int (nI p), .int (nI (i + 1)), gF]) ⟨Or.inl rfl, Or.inl rfl, Or.inl rfl, Or.inl rfl, Or.inl rfl, Or.inl rfl, Or.inr rfl, trivial⟩ ?_
              have e : (fX10_sails_24 told bits alive p) i u0 = true := by rw [fX10_sails_24, if_neg c1, if_pos c3, if_pos c4, if_pos c5, if_neg c6]
              refine LX10_sails_24 hsz hs hp d (i + 1) true (by omega) ?_
              rw [← e]
              exact k
            · refine g_iload_n dX10_sails_107 rfl 108 rfl rfl ?_
              refine g_iload dX10_sails_108 110 rfl rfl ?_
              refine g_ishr dX10_sails_110 111 rfl ?_
              refine g_iconst 1 dX10_sails_111 112 rfl (by decide) ?_
              refine g_iand dX10_sails_112 113 rfl ?_
              refine g_if_eq dX10_sails_113 120 rfl 116 rfl (fun c7 => ?_) (fun c7 => ?_)
              · refine g_iconst 0 dX10_sails_120 121 rfl (by decide) ?_
                refine g_istore3 dX10_sails_121 122 rfl (by decide) rfl ?_
                refine g_iinc5 dX10_sails_122 125 rfl 1 (by decide) (nI (i + 1)) (nI_add _ 1) (by decide) rfl ?_
                refine g_goto dX10_sails_125 24 rfl ?_
                refine g_fgt (L' := [.ref 0, .int bits, .int alive, .int (gB false), .int (nI p), .int (nI (i + 1)), gF]) ⟨Or.inl rfl, Or.inl rfl, Or.inl rfl, Or.inl rfl, Or.inl rfl, Or.inl rfl, Or.inr rfl, trivial⟩ ?_
                have e : (fX10_sails_24 told bits alive p) i u0 = false := by rw [fX10_sails_24, if_neg c1, if_pos c3, if_pos c4, if_pos c5, if_pos c6, if_pos c7]
                refine LX10_sails_24 hsz hs hp d (i + 1) false (by omega) ?_
                rw [← e]
                exact k
              · refine g_iconst 1 dX10_sails_116 117 rfl (by decide) ?_
                refine g_goto dX10_sails_117 121 rfl ?_
                refine g_istore3 dX10_sails_121 122 rfl (by decide) rfl ?_
                refine g_iinc5 dX10_sails_122 125 rfl 1 (by decide) (nI (i + 1)) (nI_add _ 1) (by decide) rfl ?_
                refine g_goto dX10_sails_125 24 rfl ?_
                refine g_fgt (L' := [.ref 0, .int bits, .int alive, .int (gB true), .int (nI p), .int (nI (i + 1)), gF]) ⟨Or.inl rfl, Or.inl rfl, Or.inl rfl, Or.inl rfl, Or.inl rfl, Or.inl rfl, Or.inr rfl, trivial⟩ ?_
                have e : (fX10_sails_24 told bits alive p) i u0 = true := by rw [fX10_sails_24, if_neg c1, if_pos c3, if_pos c4, if_pos c5, if_pos c6, if_neg c7]
                refine LX10_sails_24 hsz hs hp d (i + 1) true (by omega) ?_
                rw [← e]
                exact k
def fX10_sails_10 (told : Int32 → Int32) (bits : Int32) (alive : Int32) (sz : Nat) : Nat → (Bool) → (Bool)
  | i, u0 => (gLp (fX10_sails_24 told bits alive i) sz 0 u0)
set_option maxRecDepth 100000 in
set_option maxHeartbeats 4000000 in
theorem LX10_sails_10 {w : gW} {al : Bool} {typed known kept noted at_ : Int32} {text told draft s past images notes alone parts held : Int32 → Int32} {n : Nat} {P : gP} {sz : Nat} {bits : Int32} {alive : Int32} (hsz : told 0 = nI sz) (hs : sz ≤ 9)  : ∀ (d i : Nat) (u0 : Bool), i + d = sz → G w gT0 al n mX10_sails 0 0 P 0 0 (hM text typed told draft s past known images kept notes noted at_ alone parts held) 134 [.ref 0, .int bits, .int alive, .int (gB (gLp (fX10_sails_10 told bits alive sz) d i u0)), .int (nI sz), gF, gF] [] → G w gT0 al n mX10_sails 0 0 P 0 0 (hM text typed told draft s past known images kept notes noted at_ alone parts held) 10 [.ref 0, .int bits, .int alive, .int (gB u0), .int (nI i), gF, gF] []
  | 0, i, u0, hi, k => by
    have hN : i = sz := by omega
    rw [hN]
    rw [hN] at k
    refine g_iload dX10_sails_10 12 rfl rfl ?_
    refine g_aload_n dX10_sails_12 rfl 13 rfl rfl ?_
    refine g_get (v := .ref 2) dX10_sails_13 16 rfl lX10_13 rfl rfl ?_
    refine g_iconst 0 dX10_sails_16 17 rfl (by decide) ?_
    refine g_iaload (N := 40) dX10_sails_17 18 rfl rfl (vp_in_iff.mpr (by decide)) ?_
    refine g_icmp_ge dX10_sails_18 134 rfl 21 rfl (fun _ => ?_) (fun c => absurd (by rw [hsz]; exact nI_le (Nat.le_refl _) (by omega)) c)
    exact k
  | d + 1, i, u0, hi, k => by
    refine g_iload dX10_sails_10 12 rfl rfl ?_
    refine g_aload_n dX10_sails_12 rfl 13 rfl rfl ?_
    refine g_get (v := .ref 2) dX10_sails_13 16 rfl lX10_13 rfl rfl ?_
    refine g_iconst 0 dX10_sails_16 17 rfl (by decide) ?_
    refine g_iaload (N := 40) dX10_sails_17 18 rfl rfl (vp_in_iff.mpr (by decide)) ?_
    refine g_icmp_ge dX10_sails_18 134 rfl 21 rfl (fun c => absurd c (by rw [hsz]; exact nI_ge (by omega) (by omega))) (fun _ => ?_)
    refine g_iconst 0 dX10_sails_21 22 rfl (by decide) ?_
    refine g_istore5 dX10_sails_22 24 rfl (by decide) rfl ?_
    refine LX10_sails_24 hsz hs (by omega) sz 0 u0 (by omega) ?_
    refine g_iinc4 dX10_sails_128 131 rfl 1 (by decide) (nI (i + 1)) (nI_add _ 1) (by decide) rfl ?_
    refine g_goto dX10_sails_131 10 rfl ?_
    refine g_fgt (L' := [.ref 0, .int bits, .int alive, .int (gB (gLp (fX10_sails_24 told bits alive i) sz 0 u0)), .int (nI (i + 1)), gF, gF]) ⟨Or.inl rfl, Or.inl rfl, Or.inl rfl, Or.inl rfl, Or.inl rfl, Or.inr rfl, Or.inl rfl, trivial⟩ ?_
    have e : (fX10_sails_10 told bits alive sz) i u0 = (gLp (fX10_sails_24 told bits alive i) sz 0 u0) := by rw [fX10_sails_10]
    refine LX10_sails_10 hsz hs d (i + 1) (gLp (fX10_sails_24 told bits alive i) sz 0 u0) (by omega) ?_
    rw [← e]
    exact k
def rX10_sails (told : Int32 → Int32) (s : Int32 → Int32) (bits : Int32) (sz : Nat) : Bool := (if (gLp (fX10_sails_10 told bits (rX10_alive told s sz) sz) sz 0 true) = true then (if (rX10_in ((rX10_sumOf told s bits sz) - (told 1)) 0 (told 2)) = true then true else false) else false)
set_option maxRecDepth 100000 in
set_option maxHeartbeats 4000000 in
theorem MX10_sails {w : gW} {al : Bool} {typed known kept noted at_ : Int32} {text told draft s past images notes alone parts held : Int32 → Int32} {sz : Nat} (bits : Int32) (hsz : told 0 = nI sz) (hs : sz ≤ 9)  : M w gT0 al mX10_sails 0 0 (hM text typed told draft s past known images kept notes noted at_ alone parts held) [.ref 0, .int bits] (gEq (hM text typed told draft s past known images kept notes noted at_ alone parts held) (some (.int (gB (rX10_sails told s bits sz))))) := by
  refine M.of (L0 := [.ref 0, .int bits, gF, gF, gF, gF, gF]) (by decide +kernel) (Nat.le_of_ble_eq_true rfl) rfl ?_
  refine g_aload_n dX10_sails_0 rfl 1 rfl rfl ?_
  refine g_cVv (as := []) (st := []) dX10_sails_1 4 rfl kX10_98 ⟨Nat.le_of_ble_eq_true rfl, Nat.le_of_ble_eq_true rfl⟩ (MX10_alive hsz hs) rfl rfl rfl rfl (Nat.le_of_ble_eq_true rfl) (Nat.le_refl _) (Nat.le_refl _) ?_
  refine g_istore2 dX10_sails_4 5 rfl (by decide) rfl ?_
  refine g_iconst 1 dX10_sails_5 6 rfl (by decide) ?_
  refine g_istore3 dX10_sails_6 7 rfl (by decide) rfl ?_
  refine g_iconst 0 dX10_sails_7 8 rfl (by decide) ?_
  refine g_istore4 dX10_sails_8 10 rfl (by decide) rfl ?_
  refine LX10_sails_10 hsz hs sz 0 true (by omega) ?_
  refine g_iload_n dX10_sails_134 rfl 135 rfl rfl ?_
  refine g_if_eq dX10_sails_135 167 rfl 138 rfl (fun c1 => ?_) (fun c1 => ?_)
  · replace c1 := gB_f c1
    refine g_iconst 0 dX10_sails_167 168 rfl (by decide) ?_
    refine g_ireturn dX10_sails_168 rfl rfl (Nat.le_refl _) (Nat.le_refl _) ?_
    have e : (rX10_sails told s bits sz) = false := by rw [rX10_sails, if_neg c1]
    rw [e]
    exact ⟨rfl, rfl⟩
  · replace c1 := gB_t c1
    refine g_aload_n dX10_sails_138 rfl 139 rfl rfl ?_
    refine g_iload_n dX10_sails_139 rfl 140 rfl rfl ?_
    refine g_cVv (as := [.int bits]) (st := []) dX10_sails_140 143 rfl kX10_101 ⟨Nat.le_of_ble_eq_true rfl, Nat.le_of_ble_eq_true rfl⟩ (MX10_sumOf bits hsz hs) rfl rfl rfl rfl (Nat.le_of_ble_eq_true rfl) (Nat.le_refl _) (Nat.le_refl _) ?_
    refine g_aload_n dX10_sails_143 rfl 144 rfl rfl ?_
    refine g_get (v := .ref 2) dX10_sails_144 147 rfl lX10_13 rfl rfl ?_
    refine g_iconst 1 dX10_sails_147 148 rfl (by decide) ?_
    refine g_iaload (N := 40) dX10_sails_148 149 rfl rfl (vp_in_iff.mpr (by decide)) ?_
    refine g_isub dX10_sails_149 150 rfl ?_
    refine g_iconst 0 dX10_sails_150 151 rfl (by decide) ?_
    refine g_aload_n dX10_sails_151 rfl 152 rfl rfl ?_
    refine g_get (v := .ref 2) dX10_sails_152 155 rfl lX10_13 rfl rfl ?_
    refine g_iconst 2 dX10_sails_155 156 rfl (by decide) ?_
    refine g_iaload (N := 40) dX10_sails_156 157 rfl rfl (vp_in_iff.mpr (by decide)) ?_
    refine g_cSv (as := [.int ((rX10_sumOf told s bits sz) - (told 1)), .int 0, .int (told 2)]) (st := []) dX10_sails_157 160 rfl kX10_50 ⟨Nat.le_of_ble_eq_true rfl, Nat.le_of_ble_eq_true rfl⟩ (MX10_in ((rX10_sumOf told s bits sz) - (told 1)) 0 (told 2)) rfl (Nat.le_of_ble_eq_true rfl) (Nat.le_refl _) (Nat.le_refl _) ?_
    refine g_if_eq dX10_sails_160 167 rfl 163 rfl (fun c2 => ?_) (fun c2 => ?_)
    · replace c2 := gB_f c2
      refine g_iconst 0 dX10_sails_167 168 rfl (by decide) ?_
      refine g_ireturn dX10_sails_168 rfl rfl (Nat.le_refl _) (Nat.le_refl _) ?_
      have e : (rX10_sails told s bits sz) = false := by rw [rX10_sails, if_pos c1, if_neg c2]
      rw [e]
      exact ⟨rfl, rfl⟩
    · replace c2 := gB_t c2
      refine g_iconst 1 dX10_sails_163 164 rfl (by decide) ?_
      refine g_goto dX10_sails_164 168 rfl ?_
      refine g_ireturn dX10_sails_168 rfl rfl (Nat.le_refl _) (Nat.le_refl _) ?_
      have e : (rX10_sails told s bits sz) = true := by rw [rX10_sails, if_pos c1, if_pos c2]
      rw [e]
      exact ⟨rfl, rfl⟩
