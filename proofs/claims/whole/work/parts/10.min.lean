/-! the reference: minutes, moves -/
def rX10_letterAt (text : Int32 → Int32) (k : Nat) (ty : Nat) : Int32 := (if (nI ty) ≤ (nI k) then (-1) else (text (nI k)))
set_option maxRecDepth 100000 in
set_option maxHeartbeats 4000000 in
theorem MX10_letterAt {w : gW} {al : Bool} {known kept noted at_ : Int32} {text told draft s past images notes alone parts held : Int32 → Int32} {ty : Nat} (k : Nat) (hty : ty ≤ 200) (hk : k < 1000) : M w gT0 al mX10_letterAt 0 0 (hM text (nI ty) told draft s past known images kept notes noted at_ alone parts held) [.ref 0, .int (nI k)] (gEq (hM text (nI ty) told draft s past known images kept notes noted at_ alone parts held) (some (.int (rX10_letterAt text k ty)))) := by
  refine M.of (L0 := [.ref 0, .int (nI k)]) (by decide +kernel) (Nat.le_of_ble_eq_true rfl) rfl ?_
  refine g_iload_n dX10_letterAt_0 rfl 1 rfl rfl ?_
  refine g_aload_n dX10_letterAt_1 rfl 2 rfl rfl ?_
  refine g_get (v := .int (nI ty)) dX10_letterAt_2 5 rfl lX10_54 rfl rfl ?_
  refine g_icmp_ge dX10_letterAt_5 17 rfl 8 rfl (fun c1 => ?_) (fun c1 => ?_)
  · refine g_iconst (-1) dX10_letterAt_17 18 rfl (by decide) ?_
    refine g_ireturn dX10_letterAt_18 rfl rfl (Nat.le_refl _) (Nat.le_refl _) ?_
    have e : (rX10_letterAt text k ty) = (-1) := by rw [rX10_letterAt, if_pos c1]
    rw [e]
    exact ⟨rfl, rfl⟩
  · refine g_aload_n dX10_letterAt_8 rfl 9 rfl rfl ?_
    refine g_get (v := .ref 1) dX10_letterAt_9 12 rfl lX10_7 rfl rfl ?_
    refine g_iload_n dX10_letterAt_12 rfl 13 rfl rfl ?_
    refine g_iaload (N := 200) dX10_letterAt_13 14 rfl rfl (vp_in_nI (by have q : k < ty := Nat.lt_of_not_le (fun z => c1 (nI_le z (by omega))); omega) (by decide)) ?_
    refine g_goto dX10_letterAt_14 18 rfl ?_
    refine g_ireturn dX10_letterAt_18 rfl rfl (Nat.le_refl _) (Nat.le_refl _) ?_
    have e : (rX10_letterAt text k ty) = (text (nI k)) := by rw [rX10_letterAt, if_neg c1]
    rw [e]
    exact ⟨rfl, rfl⟩
def fX10_lays_2 (draft : Int32 → Int32) : Nat → (Int32 → Int32) → (Int32 → Int32)
  | i, told => (gup told (nI i) (draft (nI i)))
set_option maxRecDepth 100000 in
set_option maxHeartbeats 4000000 in
theorem LX10_lays_2 {w : gW} {al : Bool} {typed known kept noted at_ : Int32} {text draft s past images notes alone parts held : Int32 → Int32} {n : Nat} {P : gP}   : ∀ (d i : Nat) (told : Int32 → Int32), i + d = 40 → G w gT0 al n mX10_lays 0 0 P 0 0 (hM text typed (gLp (fX10_lays_2 draft) d i told) draft s past known images kept notes noted at_ alone parts held) 26 [.ref 0, .int (nI 40)] [] → G w gT0 al n mX10_lays 0 0 P 0 0 (hM text typed told draft s past known images kept notes noted at_ alone parts held) 2 [.ref 0, .int (nI i)] []
  | 0, i, told, hi, k => by
    have hN : i = 40 := by omega
    rw [hN]
    rw [hN] at k
    refine g_iload_n dX10_lays_2 rfl 3 rfl rfl ?_
    refine g_bipush 40 dX10_lays_3 5 rfl (by decide) ?_
    refine g_icmp_ge dX10_lays_5 26 rfl 8 rfl (fun _ => ?_) (fun c => absurd (nI_le (a := 40) (b := 40) (by omega) (by omega)) c)
    exact k
  | d + 1, i, told, hi, k => by
    refine g_iload_n dX10_lays_2 rfl 3 rfl rfl ?_
    refine g_bipush 40 dX10_lays_3 5 rfl (by decide) ?_
    refine g_icmp_ge dX10_lays_5 26 rfl 8 rfl (fun c => absurd c (nI_ge (a := i) (b := 40) (by omega) (by omega))) (fun _ => ?_)
    refine g_aload_n dX10_lays_8 rfl 9 rfl rfl ?_
    refine g_get (v := .ref 2) dX10_lays_9 12 rfl lX10_13 rfl rfl ?_
    refine g_iload_n dX10_lays_12 rfl 13 rfl rfl ?_
    refine g_aload_n dX10_lays_13 rfl 14 rfl rfl ?_
    refine g_get (v := .ref 3) dX10_lays_14 17 rfl lX10_16 rfl rfl ?_
    refine g_iload_n dX10_lays_17 rfl 18 rfl rfl ?_
    refine g_iaload (N := 40) dX10_lays_18 19 rfl rfl (vp_in_nI (by omega) (by decide)) ?_
    refine g_iastore (N := 40) dX10_lays_19 20 rfl rfl (by decide) (vp_in_nI (by omega) (by decide)) (h' := (hM text typed (gup told (nI i) (draft (nI i))) draft s past known images kept notes noted at_ alone parts held)) rfl ?_
    refine g_iinc1 dX10_lays_20 23 rfl 1 (by decide) (nI (i + 1)) (nI_add _ 1) (by decide) rfl ?_
    refine g_goto dX10_lays_23 2 rfl ?_
    have e : (fX10_lays_2 draft) i told = (gup told (nI i) (draft (nI i))) := by rw [fX10_lays_2]
    refine LX10_lays_2  d (i + 1) (gup told (nI i) (draft (nI i))) (by omega) ?_
    rw [← e]
    exact k
def fX10_lays_28  : Nat → (Int32 → Int32) → (Int32 → Int32)
  | i, s => (gup s (nI i) 0)
set_option maxRecDepth 100000 in
set_option maxHeartbeats 4000000 in
theorem LX10_lays_28 {w : gW} {al : Bool} {typed known kept noted at_ : Int32} {text told draft past images notes alone parts held : Int32 → Int32} {n : Nat} {P : gP}   : ∀ (d i : Nat) (s : Int32 → Int32), i + d = 21 → G w gT0 al n mX10_lays 0 0 P 0 0 (hM text typed told draft (gLp fX10_lays_28 d i s) past known images kept notes noted at_ alone parts held) 47 [.ref 0, .int (nI 21)] [] → G w gT0 al n mX10_lays 0 0 P 0 0 (hM text typed told draft s past known images kept notes noted at_ alone parts held) 28 [.ref 0, .int (nI i)] []
  | 0, i, s, hi, k => by
    have hN : i = 21 := by omega
    rw [hN]
    rw [hN] at k
    refine g_iload_n dX10_lays_28 rfl 29 rfl rfl ?_
    refine g_bipush 21 dX10_lays_29 31 rfl (by decide) ?_
    refine g_icmp_ge dX10_lays_31 47 rfl 34 rfl (fun _ => ?_) (fun c => absurd (nI_le (a := 21) (b := 21) (by omega) (by omega)) c)
    exact k
  | d + 1, i, s, hi, k => by
    refine g_iload_n dX10_lays_28 rfl 29 rfl rfl ?_
    refine g_bipush 21 dX10_lays_29 31 rfl (by decide) ?_
    refine g_icmp_ge dX10_lays_31 47 rfl 34 rfl (fun c => absurd c (nI_ge (a := i) (b := 21) (by omega) (by omega))) (fun _ => ?_)
    refine g_aload_n dX10_lays_34 rfl 35 rfl rfl ?_
    refine g_get (v := .ref 4) dX10_lays_35 38 rfl lX10_19 rfl rfl ?_
    refine g_iload_n dX10_lays_38 rfl 39 rfl rfl ?_
    refine g_iconst 0 dX10_lays_39 40 rfl (by decide) ?_
    refine g_iastore (N := 21) dX10_lays_40 41 rfl rfl (by decide) (vp_in_nI (by omega) (by decide)) (h' := (hM text typed told draft (gup s (nI i) 0) past known images kept notes noted at_ alone parts held)) rfl ?_
    refine g_iinc1 dX10_lays_41 44 rfl 1 (by decide) (nI (i + 1)) (nI_add _ 1) (by decide) rfl ?_
    refine g_goto dX10_lays_44 28 rfl ?_
    have e : fX10_lays_28 i s = (gup s (nI i) 0) := by rw [fX10_lays_28]
    refine LX10_lays_28  d (i + 1) (gup s (nI i) 0) (by omega) ?_
    rw [← e]
    exact k
def rX10_lays (told : Int32 → Int32) (draft : Int32 → Int32) (s : Int32 → Int32) : (Int32 → Int32) × (Int32 → Int32) × Int32 × Int32 × Int32 := ((gLp (fX10_lays_2 draft) 40 0 told), (gLp fX10_lays_28 21 0 s), 0, 0, 0)
set_option maxRecDepth 100000 in
set_option maxHeartbeats 4000000 in
theorem MX10_lays {w : gW} {al : Bool} {typed known kept noted at_ : Int32} {text told draft s past images notes alone parts held : Int32 → Int32}   : M w gT0 al mX10_lays 0 0 (hM text typed told draft s past known images kept notes noted at_ alone parts held) [.ref 0] (gEq (hM text typed ((rX10_lays told draft s).1) draft ((rX10_lays told draft s).2.1) past ((rX10_lays told draft s).2.2.1) images ((rX10_lays told draft s).2.2.2.1) notes ((rX10_lays told draft s).2.2.2.2) at_ alone parts held) none) := by
  refine M.of (L0 := [.ref 0, gF]) (by decide +kernel) (Nat.le_of_ble_eq_true rfl) rfl ?_
  refine g_iconst 0 dX10_lays_0 1 rfl (by decide) ?_
  refine g_istore1 dX10_lays_1 2 rfl (by decide) rfl ?_
  refine LX10_lays_2  40 0 told (by omega) ?_
  refine g_iconst 0 dX10_lays_26 27 rfl (by decide) ?_
  refine g_istore1 dX10_lays_27 28 rfl (by decide) rfl ?_
  refine LX10_lays_28  21 0 s (by omega) ?_
  refine g_aload_n dX10_lays_47 rfl 48 rfl rfl ?_
  refine g_iconst 0 dX10_lays_48 49 rfl (by decide) ?_
  refine g_put dX10_lays_49 52 rfl lX10_80 wrX10 rfl rfl rfl rfl rfl (Nat.le_of_ble_eq_true rfl) (h' := (hM text typed (gLp (fX10_lays_2 draft) 40 0 told) draft (gLp fX10_lays_28 21 0 s) past 0 images kept notes noted at_ alone parts held)) rfl ?_
  refine g_aload_n dX10_lays_52 rfl 53 rfl rfl ?_
  refine g_iconst 0 dX10_lays_53 54 rfl (by decide) ?_
  refine g_put dX10_lays_54 57 rfl lX10_83 wrX10 rfl rfl rfl rfl rfl (Nat.le_of_ble_eq_true rfl) (h' := (hM text typed (gLp (fX10_lays_2 draft) 40 0 told) draft (gLp fX10_lays_28 21 0 s) past 0 images 0 notes noted at_ alone parts held)) rfl ?_
  refine g_aload_n dX10_lays_57 rfl 58 rfl rfl ?_
  refine g_iconst 0 dX10_lays_58 59 rfl (by decide) ?_
  refine g_put dX10_lays_59 62 rfl lX10_86 wrX10 rfl rfl rfl rfl rfl (Nat.le_of_ble_eq_true rfl) (h' := (hM text typed (gLp (fX10_lays_2 draft) 40 0 told) draft (gLp fX10_lays_28 21 0 s) past 0 images 0 notes 0 at_ alone parts held)) rfl ?_
  refine g_return dX10_lays_62 rfl (Nat.le_refl _) (Nat.le_refl _) ?_
  have e : (rX10_lays told draft s) = ((gLp (fX10_lays_2 draft) 40 0 told), (gLp fX10_lays_28 21 0 s), 0, 0, 0) := by rw [rX10_lays]
  rw [e]
  exact ⟨rfl, rfl⟩
def rX10_person (told : Int32 → Int32) (s : Int32 → Int32) (p : Nat) (what : Int32) : Int32 := (if what = 0 then (told (nI (4 + p))) else (if what = 1 then (told (nI (13 + p))) else (if what = 2 then (told (nI (22 + p))) else (if what = 3 then (told (nI (31 + p))) else (if what = 4 then (rX10_where told s p) else (if what = 5 then (s (nI (9 + p))) else (-1)))))))
set_option maxRecDepth 100000 in
set_option maxHeartbeats 4000000 in
theorem MX10_person {w : gW} {al : Bool} {typed known kept noted at_ : Int32} {text told draft s past images notes alone parts held : Int32 → Int32}  (p : Nat) (what : Int32) (hv : rX10_isPerson told (nI p) = true) (hp : p < 9) : M w gT0 al mX10_person 0 0 (hM text typed told draft s past known images kept notes noted at_ alone parts held) [.ref 0, .int (nI p), .int what] (gEq (hM text typed told draft s past known images kept notes noted at_ alone parts held) (some (.int (rX10_person told s p what)))) := by
  refine M.of (L0 := [.ref 0, .int (nI p), .int what]) (by decide +kernel) (Nat.le_of_ble_eq_true rfl) rfl ?_
  refine g_aload_n dX10_person_0 rfl 1 rfl rfl ?_
  refine g_iload_n dX10_person_1 rfl 2 rfl rfl ?_
  refine g_cVv (as := [.int (nI p)]) (st := []) dX10_person_2 5 rfl kX10_95 ⟨Nat.le_of_ble_eq_true rfl, Nat.le_of_ble_eq_true rfl⟩ (MX10_isPerson (nI p)) rfl rfl rfl rfl (Nat.le_of_ble_eq_true rfl) (Nat.le_refl _) (Nat.le_refl _) ?_
  refine g_if_ne dX10_person_5 10 rfl 8 rfl (fun _ => ?_) (fun c => absurd c (gB_1 hv))
  refine g_iload_n dX10_person_10 rfl 11 rfl rfl ?_
  refine g_tsw dX10_person_11 [(0, 48), (1, 57), (2, 67), (3, 77), (4, 87), (5, 93)] 103 (by decide) (by decide) rfl (by decide) ?_
  refine And.intro (fun c1 => ?_) (fun c1 => ?_)
  · refine g_aload_n dX10_person_48 rfl 49 rfl rfl ?_
    refine g_get (v := .ref 2) dX10_person_49 52 rfl lX10_13 rfl rfl ?_
    refine g_iconst 4 dX10_person_52 53 rfl (by decide) ?_
    refine g_iload_n dX10_person_53 rfl 54 rfl rfl ?_
    refine g_iadd' dX10_person_54 55 rfl (nI (4 + p)) (nI_add 4 _) ?_
    refine g_iaload (N := 40) dX10_person_55 56 rfl rfl (vp_in_nI (by omega) (by decide)) ?_
    refine g_ireturn dX10_person_56 rfl rfl (Nat.le_refl _) (Nat.le_refl _) ?_
    have e : (rX10_person told s p what) = (told (nI (4 + p))) := by rw [rX10_person, if_pos c1]
    rw [e]
    exact ⟨rfl, rfl⟩
  · refine And.intro (fun c2 => ?_) (fun c2 => ?_)
    · refine g_aload_n dX10_person_57 rfl 58 rfl rfl ?_
      refine g_get (v := .ref 2) dX10_person_58 61 rfl lX10_13 rfl rfl ?_
      refine g_bipush 13 dX10_person_61 63 rfl (by decide) ?_
      refine g_iload_n dX10_person_63 rfl 64 rfl rfl ?_
      refine g_iadd' dX10_person_64 65 rfl (nI (13 + p)) (nI_add 13 _) ?_
      refine g_iaload (N := 40) dX10_person_65 66 rfl rfl (vp_in_nI (by omega) (by decide)) ?_
      refine g_ireturn dX10_person_66 rfl rfl (Nat.le_refl _) (Nat.le_refl _) ?_
      have e : (rX10_person told s p what) = (told (nI (13 + p))) := by rw [rX10_person, if_neg c1, if_pos c2]
      rw [e]
      exact ⟨rfl, rfl⟩
    · refine And.intro (fun c3 => ?_) (fun c3 => ?_)
      · refine g_aload_n dX10_person_67 rfl 68 rfl rfl ?_
        refine g_get (v := .ref 2) dX10_person_68 71 rfl lX10_13 rfl rfl ?_
        refine g_bipush 22 dX10_person_71 73 rfl (by decide) ?_
        refine g_iload_n dX10_person_73 rfl 74 rfl rfl ?_
        refine g_iadd' dX10_person_74 75 rfl (nI (22 + p)) (nI_add 22 _) ?_
        refine g_iaload (N := 40) dX10_person_75 76 rfl rfl (vp_in_nI (by omega) (by decide)) ?_
        refine g_ireturn dX10_person_76 rfl rfl (Nat.le_refl _) (Nat.le_refl _) ?_
        have e : (rX10_person told s p what) = (told (nI (22 + p))) := by rw [rX10_person, if_neg c1, if_neg c2, if_pos c3]
        rw [e]
        exact ⟨rfl, rfl⟩
      · refine And.intro (fun c4 => ?_) (fun c4 => ?_)
        · refine g_aload_n dX10_person_77 rfl 78 rfl rfl ?_
          refine g_get (v := .ref 2) dX10_person_78 81 rfl lX10_13 rfl rfl ?_
          refine g_bipush 31 dX10_person_81 83 rfl (by decide) ?_
          refine g_iload_n dX10_person_83 rfl 84 rfl rfl ?_
          refine g_iadd' dX10_person_84 85 rfl (nI (31 + p)) (nI_add 31 _) ?_
          refine g_iaload (N := 40) dX10_person_85 86 rfl rfl (vp_in_nI (by omega) (by decide)) ?_
          refine g_ireturn dX10_person_86 rfl rfl (Nat.le_refl _) (Nat.le_refl _) ?_
          have e : (rX10_person told s p what) = (told (nI (31 + p))) := by rw [rX10_person, if_neg c1, if_neg c2, if_neg c3, if_pos c4]
          rw [e]
          exact ⟨rfl, rfl⟩
        · refine And.intro (fun c5 => ?_) (fun c5 => ?_)
          · refine g_aload_n dX10_person_87 rfl 88 rfl rfl ?_
            refine g_iload_n dX10_person_88 rfl 89 rfl rfl ?_
            refine g_cVv (as := [.int (nI p)]) (st := []) dX10_person_89 92 rfl kX10_89 ⟨Nat.le_of_ble_eq_true rfl, Nat.le_of_ble_eq_true rfl⟩ (MX10_where p (by omega)) rfl rfl rfl rfl (Nat.le_of_ble_eq_true rfl) (Nat.le_refl _) (Nat.le_refl _) ?_
            refine g_ireturn dX10_person_92 rfl rfl (Nat.le_refl _) (Nat.le_refl _) ?_
            have e : (rX10_person told s p what) = (rX10_where told s p) := by rw [rX10_person, if_neg c1, if_neg c2, if_neg c3, if_neg c4, if_pos c5]
            rw [e]
            exact ⟨rfl, rfl⟩
          · refine And.intro (fun c6 => ?_) (fun c6 => ?_)
            · refine g_aload_n dX10_person_93 rfl 94 rfl rfl ?_
              refine g_get (v := .ref 4) dX10_person_94 97 rfl lX10_19 rfl rfl ?_
              refine g_bipush 9 dX10_person_97 99 rfl (by decide) ?_
              refine g_iload_n dX10_person_99 rfl 100 rfl rfl ?_
              refine g_iadd' dX10_person_100 101 rfl (nI (9 + p)) (nI_add 9 _) ?_
              refine g_iaload (N := 21) dX10_person_101 102 rfl rfl (vp_in_nI (by omega) (by decide)) ?_
              refine g_ireturn dX10_person_102 rfl rfl (Nat.le_refl _) (Nat.le_refl _) ?_
              have e : (rX10_person told s p what) = (s (nI (9 + p))) := by rw [rX10_person, if_neg c1, if_neg c2, if_neg c3, if_neg c4, if_neg c5, if_pos c6]
              rw [e]
              exact ⟨rfl, rfl⟩
            · refine g_iconst (-1) dX10_person_103 104 rfl (by decide) ?_
              refine g_ireturn dX10_person_104 rfl rfl (Nat.le_refl _) (Nat.le_refl _) ?_
              have e : (rX10_person told s p what) = (-1) := by rw [rX10_person, if_neg c1, if_neg c2, if_neg c3, if_neg c4, if_neg c5, if_neg c6]
              rw [e]
              exact ⟨rfl, rfl⟩
def rX10_person_x  : Int32 := (-1)
set_option maxRecDepth 100000 in
set_option maxHeartbeats 4000000 in
theorem MX10_person_x {w : gW} {al : Bool} {typed known kept noted at_ : Int32} {text told draft s past images notes alone parts held : Int32 → Int32}  (p : Int32) (what : Int32) (hv : ¬ rX10_isPerson told p = true) : M w gT0 al mX10_person 0 0 (hM text typed told draft s past known images kept notes noted at_ alone parts held) [.ref 0, .int p, .int what] (gEq (hM text typed told draft s past known images kept notes noted at_ alone parts held) (some (.int rX10_person_x))) := by
  refine M.of (L0 := [.ref 0, .int p, .int what]) (by decide +kernel) (Nat.le_of_ble_eq_true rfl) rfl ?_
  refine g_aload_n dX10_person_0 rfl 1 rfl rfl ?_
  refine g_iload_n dX10_person_1 rfl 2 rfl rfl ?_
  refine g_cVv (as := [.int p]) (st := []) dX10_person_2 5 rfl kX10_95 ⟨Nat.le_of_ble_eq_true rfl, Nat.le_of_ble_eq_true rfl⟩ (MX10_isPerson p) rfl rfl rfl rfl (Nat.le_of_ble_eq_true rfl) (Nat.le_refl _) (Nat.le_refl _) ?_
  refine g_if_ne dX10_person_5 10 rfl 8 rfl (fun c => absurd (gB_0 hv) c) (fun _ => ?_)
  refine g_iconst (-1) dX10_person_8 9 rfl (by decide) ?_
  refine g_ireturn dX10_person_9 rfl rfl (Nat.le_refl _) (Nat.le_refl _) ?_
  have e : rX10_person_x = (-1) := by rw [rX10_person_x]
  rw [e]
  exact ⟨rfl, rfl⟩
def rX10_sum (told : Int32 → Int32) (s : Int32 → Int32) (what : Int32) (sz : Nat) : Int32 := (if what = 0 then (rX10_sumOf told s (rX10_allAt told s 2 sz) sz) else (if what = 1 then (if 0 ≤ ((rX10_sumOf told s (rX10_allAt told s 2 sz) sz) - (told 1)) then 0 else (-((rX10_sumOf told s (rX10_allAt told s 2 sz) sz) - (told 1)))) else (if what = 2 then (if ((rX10_sumOf told s (rX10_allAt told s 2 sz) sz) - (told 1)) ≤ 0 then 0 else ((rX10_sumOf told s (rX10_allAt told s 2 sz) sz) - (told 1))) else (if what = 3 then (if (rX10_sails told s (rX10_allAt told s 2 sz) sz) = true then 1 else 0) else (if what = 4 then (if (rX10_sails told s (rX10_allAt told s 2 sz) sz) = true then (rX10_coinsOf told s (rX10_allAt told s 2 sz) sz) else (-4)) else (-1))))))
set_option maxRecDepth 100000 in
set_option maxHeartbeats 4000000 in
theorem MX10_sum {w : gW} {al : Bool} {typed known kept noted at_ : Int32} {text told draft s past images notes alone parts held : Int32 → Int32} {sz : Nat} (what : Int32) (hsz : told 0 = nI sz) (hs : sz ≤ 9)  : M w gT0 al mX10_sum 0 0 (hM text typed told draft s past known images kept notes noted at_ alone parts held) [.ref 0, .int what] (gEq (hM text typed told draft s past known images kept notes noted at_ alone parts held) (some (.int (rX10_sum told s what sz)))) := by
  refine M.of (L0 := [.ref 0, .int what, gF, gF]) (by decide +kernel) (Nat.le_of_ble_eq_true rfl) rfl ?_
  refine g_aload_n dX10_sum_0 rfl 1 rfl rfl ?_
  refine g_iconst 2 dX10_sum_1 2 rfl (by decide) ?_
  refine g_cVv (as := [.int 2]) (st := []) dX10_sum_2 5 rfl kX10_92 ⟨Nat.le_of_ble_eq_true rfl, Nat.le_of_ble_eq_true rfl⟩ (MX10_allAt 2 hsz hs) rfl rfl rfl rfl (Nat.le_of_ble_eq_true rfl) (Nat.le_refl _) (Nat.le_refl _) ?_
  refine g_istore2 dX10_sum_5 6 rfl (by decide) rfl ?_
  refine g_aload_n dX10_sum_6 rfl 7 rfl rfl ?_
  refine g_iload_n dX10_sum_7 rfl 8 rfl rfl ?_
  refine g_cVv (as := [.int (rX10_allAt told s 2 sz)]) (st := []) dX10_sum_8 11 rfl kX10_101 ⟨Nat.le_of_ble_eq_true rfl, Nat.le_of_ble_eq_true rfl⟩ (MX10_sumOf (rX10_allAt told s 2 sz) hsz hs) rfl rfl rfl rfl (Nat.le_of_ble_eq_true rfl) (Nat.le_refl _) (Nat.le_refl _) ?_
  refine g_aload_n dX10_sum_11 rfl 12 rfl rfl ?_
  refine g_get (v := .ref 2) dX10_sum_12 15 rfl lX10_13 rfl rfl ?_
  refine g_iconst 1 dX10_sum_15 16 rfl (by decide) ?_
  refine g_iaload (N := 40) dX10_sum_16 17 rfl rfl (vp_in_iff.mpr (by decide)) ?_
  refine g_isub dX10_sum_17 18 rfl ?_
  refine g_istore3 dX10_sum_18 19 rfl (by decide) rfl ?_
  refine g_iload_n dX10_sum_19 rfl 20 rfl rfl ?_
  refine g_tsw dX10_sum_20 [(0, 56), (1, 62), (2, 73), (3, 83), (4, 97)] 116 (by decide) (by decide) rfl (by decide) ?_
  refine And.intro (fun c1 => ?_) (fun c1 => ?_)
  · refine g_aload_n dX10_sum_56 rfl 57 rfl rfl ?_
    refine g_iload_n dX10_sum_57 rfl 58 rfl rfl ?_
    refine g_cVv (as := [.int (rX10_allAt told s 2 sz)]) (st := []) dX10_sum_58 61 rfl kX10_101 ⟨Nat.le_of_ble_eq_true rfl, Nat.le_of_ble_eq_true rfl⟩ (MX10_sumOf (rX10_allAt told s 2 sz) hsz hs) rfl rfl rfl rfl (Nat.le_of_ble_eq_true rfl) (Nat.le_refl _) (Nat.le_refl _) ?_
    refine g_ireturn dX10_sum_61 rfl rfl (Nat.le_refl _) (Nat.le_refl _) ?_
    have e : (rX10_sum told s what sz) = (rX10_sumOf told s (rX10_allAt told s 2 sz) sz) := by rw [rX10_sum, if_pos c1]
    rw [e]
    exact ⟨rfl, rfl⟩
  · refine And.intro (fun c2 => ?_) (fun c2 => ?_)
    · refine g_iload_n dX10_sum_62 rfl 63 rfl rfl ?_
      refine g_if_ge dX10_sum_63 71 rfl 66 rfl (fun c3 => ?_) (fun c3 => ?_)
      · refine g_iconst 0 dX10_sum_71 72 rfl (by decide) ?_
        refine g_ireturn dX10_sum_72 rfl rfl (Nat.le_refl _) (Nat.le_refl _) ?_
        have e : (rX10_sum told s what sz) = 0 := by rw [rX10_sum, if_neg c1, if_pos c2, if_pos c3]
        rw [e]
        exact ⟨rfl, rfl⟩
      · refine g_iload_n dX10_sum_66 rfl 67 rfl rfl ?_
        refine g_ineg dX10_sum_67 68 rfl ?_
        refine g_goto dX10_sum_68 72 rfl ?_
        refine g_ireturn dX10_sum_72 rfl rfl (Nat.le_refl _) (Nat.le_refl _) ?_
        have e : (rX10_sum told s what sz) = (-((rX10_sumOf told s (rX10_allAt told s 2 sz) sz) - (told 1))) := by rw [rX10_sum, if_neg c1, if_pos c2, if_neg c3]
        rw [e]
        exact ⟨rfl, rfl⟩
    · refine And.intro (fun c4 => ?_) (fun c4 => ?_)
      · refine g_iload_n dX10_sum_73 rfl 74 rfl rfl ?_
        refine g_if_le dX10_sum_74 81 rfl 77 rfl (fun c5 => ?_) (fun c5 => ?_)
        · refine g_iconst 0 dX10_sum_81 82 rfl (by decide) ?_
          refine g_ireturn dX10_sum_82 rfl rfl (Nat.le_refl _) (Nat.le_refl _) ?_
          have e : (rX10_sum told s what sz) = 0 := by rw [rX10_sum, if_neg c1, if_neg c2, if_pos c4, if_pos c5]
          rw [e]
          exact ⟨rfl, rfl⟩
        · refine g_iload_n dX10_sum_77 rfl 78 rfl rfl ?_
          refine g_goto dX10_sum_78 82 rfl ?_
          refine g_ireturn dX10_sum_82 rfl rfl (Nat.le_refl _) (Nat.le_refl _) ?_
          have e : (rX10_sum told s what sz) = ((rX10_sumOf told s (rX10_allAt told s 2 sz) sz) - (told 1)) := by rw [rX10_sum, if_neg c1, if_neg c2, if_pos c4, if_neg c5]
          rw [e]
          exact ⟨rfl, rfl⟩
      · refine And.intro (fun c6 => ?_) (fun c6 => ?_)
        · refine g_aload_n dX10_sum_83 rfl 84 rfl rfl ?_
          refine g_iload_n dX10_sum_84 rfl 85 rfl rfl ?_
          refine g_cVv (as := [.int (rX10_allAt told s 2 sz)]) (st := []) dX10_sum_85 88 rfl kX10_104 ⟨Nat.le_of_ble_eq_true rfl, Nat.le_of_ble_eq_true rfl⟩ (MX10_sails (rX10_allAt told s 2 sz) hsz hs) rfl rfl rfl rfl (Nat.le_of_ble_eq_true rfl) (Nat.le_refl _) (Nat.le_refl _) ?_
          refine g_if_eq dX10_sum_88 95 rfl 91 rfl (fun c7 => ?_) (fun c7 => ?_)
          · replace c7 := gB_f c7
            refine g_iconst 0 dX10_sum_95 96 rfl (by decide) ?_
            refine g_ireturn dX10_sum_96 rfl rfl (Nat.le_refl _) (Nat.le_refl _) ?_
            have e : (rX10_sum told s what sz) = 0 := by rw [rX10_sum, if_neg c1, if_neg c2, if_neg c4, if_pos c6, if_neg c7]
            rw [e]
            exact ⟨rfl, rfl⟩
          · replace c7 := gB_t c7
            refine g_iconst 1 dX10_sum_91 92 rfl (by decide) ?_
            refine g_goto dX10_sum_92 96 rfl ?_
            refine g_ireturn dX10_sum_96 rfl rfl (Nat.le_refl _) (Nat.le_refl _) ?_
            have e : (rX10_sum told s what sz) = 1 := by rw [rX10_sum, if_neg c1, if_neg c2, if_neg c4, if_pos c6, if_pos c7]
            rw [e]
            exact ⟨rfl, rfl⟩
        · refine And.intro (fun c8 => ?_) (fun c8 => ?_)
          · refine g_aload_n dX10_sum_97 rfl 98 rfl rfl ?_
            refine g_iload_n dX10_sum_98 rfl 99 rfl rfl ?_
            refine g_cVv (as := [.int (rX10_allAt told s 2 sz)]) (st := []) dX10_sum_99 102 rfl kX10_104 ⟨Nat.le_of_ble_eq_true rfl, Nat.le_of_ble_eq_true rfl⟩ (MX10_sails (rX10_allAt told s 2 sz) hsz hs) rfl rfl rfl rfl (Nat.le_of_ble_eq_true rfl) (Nat.le_refl _) (Nat.le_refl _) ?_
            refine g_if_eq dX10_sum_102 113 rfl 105 rfl (fun c9 => ?_) (fun c9 => ?_)
            · replace c9 := gB_f c9
              refine g_bipush (-4) dX10_sum_113 115 rfl (by decide) ?_
              refine g_ireturn dX10_sum_115 rfl rfl (Nat.le_refl _) (Nat.le_refl _) ?_
              have e : (rX10_sum told s what sz) = (-4) := by rw [rX10_sum, if_neg c1, if_neg c2, if_neg c4, if_neg c6, if_pos c8, if_neg c9]
              rw [e]
              exact ⟨rfl, rfl⟩
            · replace c9 := gB_t c9
              refine g_aload_n dX10_sum_105 rfl 106 rfl rfl ?_
              refine g_iload_n dX10_sum_106 rfl 107 rfl rfl ?_
              refine g_cVv (as := [.int (rX10_allAt told s 2 sz)]) (st := []) dX10_sum_107 110 rfl kX10_107 ⟨Nat.le_of_ble_eq_true rfl, Nat.le_of_ble_eq_true rfl⟩ (MX10_coinsOf (rX10_allAt told s 2 sz) hsz hs) rfl rfl rfl rfl (Nat.le_of_ble_eq_true rfl) (Nat.le_refl _) (Nat.le_refl _) ?_
              refine g_goto dX10_sum_110 115 rfl ?_
              refine g_ireturn dX10_sum_115 rfl rfl (Nat.le_refl _) (Nat.le_refl _) ?_
              have e : (rX10_sum told s what sz) = (rX10_coinsOf told s (rX10_allAt told s 2 sz) sz) := by rw [rX10_sum, if_neg c1, if_neg c2, if_neg c4, if_neg c6, if_pos c8, if_pos c9]
              rw [e]
              exact ⟨rfl, rfl⟩
          · refine g_iconst (-1) dX10_sum_116 117 rfl (by decide) ?_
            refine g_ireturn dX10_sum_117 rfl rfl (Nat.le_refl _) (Nat.le_refl _) ?_
            have e : (rX10_sum told s what sz) = (-1) := by rw [rX10_sum, if_neg c1, if_neg c2, if_neg c4, if_neg c6, if_neg c8]
            rw [e]
            exact ⟨rfl, rfl⟩
def fX10_keeps_11  : Nat → (Int32 → Int32) → (Int32 → Int32)
  | i, past => (gup past (nI i) (past (nI (i + 21))))
set_option maxRecDepth 100000 in
set_option maxHeartbeats 4000000 in
theorem LX10_keeps_11 {w : gW} {al : Bool} {typed known kept noted at_ : Int32} {text told draft s images notes alone parts held : Int32 → Int32} {n : Nat} {P : gP}   : ∀ (d i : Nat) (past : Int32 → Int32), i + d = 147 → G w gT0 al n mX10_keeps 0 0 P 0 0 (hM text typed told draft s (gLp fX10_keeps_11 d i past) known images kept notes noted at_ alone parts held) 39 [.ref 0, .int (nI 147)] [] → G w gT0 al n mX10_keeps 0 0 P 0 0 (hM text typed told draft s past known images kept notes noted at_ alone parts held) 11 [.ref 0, .int (nI i)] []
  | 0, i, past, hi, k => by
    have hN : i = 147 := by omega
    rw [hN]
    rw [hN] at k
    refine g_iload_n dX10_keeps_11 rfl 12 rfl rfl ?_
    refine g_sipush 147 dX10_keeps_12 15 rfl (by decide) ?_
    refine g_icmp_ge dX10_keeps_15 39 rfl 18 rfl (fun _ => ?_) (fun c => absurd (nI_le (a := 147) (b := 147) (by omega) (by omega)) c)
    exact k
  | d + 1, i, past, hi, k => by
    refine g_iload_n dX10_keeps_11 rfl 12 rfl rfl ?_
    refine g_sipush 147 dX10_keeps_12 15 rfl (by decide) ?_
    refine g_icmp_ge dX10_keeps_15 39 rfl 18 rfl (fun c => absurd c (nI_ge (a := i) (b := 147) (by omega) (by omega))) (fun _ => ?_)
    refine g_aload_n dX10_keeps_18 rfl 19 rfl rfl ?_
    refine g_get (v := .ref 5) dX10_keeps_19 22 rfl lX10_22 rfl rfl ?_
    refine g_iload_n dX10_keeps_22 rfl 23 rfl rfl ?_
    refine g_aload_n dX10_keeps_23 rfl 24 rfl rfl ?_
    refine g_get (v := .ref 5) dX10_keeps_24 27 rfl lX10_22 rfl rfl ?_
    refine g_iload_n dX10_keeps_27 rfl 28 rfl rfl ?_
    refine g_bipush 21 dX10_keeps_28 30 rfl (by decide) ?_
    refine g_iadd' dX10_keeps_30 31 rfl (nI (i + 21)) (nI_add _ 21) ?_
    refine g_iaload (N := 168) dX10_keeps_31 32 rfl rfl (vp_in_nI (by omega) (by decide)) ?_
    refine g_iastore (N := 168) dX10_keeps_32 33 rfl rfl (by decide) (vp_in_nI (by omega) (by decide)) (h' := (hM text typed told draft s (gup past (nI i) (past (nI (i + 21)))) known images kept notes noted at_ alone parts held)) rfl ?_
    refine g_iinc1 dX10_keeps_33 36 rfl 1 (by decide) (nI (i + 1)) (nI_add _ 1) (by decide) rfl ?_
    refine g_goto dX10_keeps_36 11 rfl ?_
    have e : fX10_keeps_11 i past = (gup past (nI i) (past (nI (i + 21)))) := by rw [fX10_keeps_11]
    refine LX10_keeps_11  d (i + 1) (gup past (nI i) (past (nI (i + 21)))) (by omega) ?_
    rw [← e]
    exact k
def fX10_keeps_51 (s : Int32 → Int32) (kn : Nat) : Nat → (Int32 → Int32) → (Int32 → Int32)
  | i, past => (gup past (nI ((21 * kn) + i)) (s (nI i)))
set_option maxRecDepth 100000 in
set_option maxHeartbeats 4000000 in
theorem LX10_keeps_51 {w : gW} {al : Bool} {typed kept noted at_ : Int32} {text told draft s images notes alone parts held : Int32 → Int32} {n : Nat} {P : gP}  {kn : Nat} (hk : kn < 8)  : ∀ (d i : Nat) (past : Int32 → Int32), i + d = 21 → G w gT0 al n mX10_keeps 0 0 P 0 0 (hM text typed told draft s (gLp (fX10_keeps_51 s kn) d i past) (nI kn) images kept notes noted at_ alone parts held) 83 [.ref 0, .int (nI 21)] [] → G w gT0 al n mX10_keeps 0 0 P 0 0 (hM text typed told draft s past (nI kn) images kept notes noted at_ alone parts held) 51 [.ref 0, .int (nI i)] []
  | 0, i, past, hi, k => by
    have hN : i = 21 := by omega
    rw [hN]
    rw [hN] at k
    refine g_iload_n dX10_keeps_51 rfl 52 rfl rfl ?_
    refine g_bipush 21 dX10_keeps_52 54 rfl (by decide) ?_
    refine g_icmp_ge dX10_keeps_54 83 rfl 57 rfl (fun _ => ?_) (fun c => absurd (nI_le (a := 21) (b := 21) (by omega) (by omega)) c)
    exact k
  | d + 1, i, past, hi, k => by
    refine g_iload_n dX10_keeps_51 rfl 52 rfl rfl ?_
    refine g_bipush 21 dX10_keeps_52 54 rfl (by decide) ?_
    refine g_icmp_ge dX10_keeps_54 83 rfl 57 rfl (fun c => absurd c (nI_ge (a := i) (b := 21) (by omega) (by omega))) (fun _ => ?_)
    refine g_aload_n dX10_keeps_57 rfl 58 rfl rfl ?_
    refine g_get (v := .ref 5) dX10_keeps_58 61 rfl lX10_22 rfl rfl ?_
    refine g_bipush 21 dX10_keeps_61 63 rfl (by decide) ?_
    refine g_aload_n dX10_keeps_63 rfl 64 rfl rfl ?_
    refine g_get (v := .int (nI kn)) dX10_keeps_64 67 rfl lX10_80 rfl rfl ?_
    refine g_imul' dX10_keeps_67 68 rfl (nI (21 * kn)) (pk_mul 21 _) ?_
    refine g_iload_n dX10_keeps_68 rfl 69 rfl rfl ?_
    refine g_iadd' dX10_keeps_69 70 rfl (nI ((21 * kn) + i)) (nI_add _ _) ?_
    refine g_aload_n dX10_keeps_70 rfl 71 rfl rfl ?_
    refine g_get (v := .ref 4) dX10_keeps_71 74 rfl lX10_19 rfl rfl ?_
    refine g_iload_n dX10_keeps_74 rfl 75 rfl rfl ?_
    refine g_iaload (N := 21) dX10_keeps_75 76 rfl rfl (vp_in_nI (by omega) (by decide)) ?_
    refine g_iastore (N := 168) dX10_keeps_76 77 rfl rfl (by decide) (vp_in_nI (by omega) (by decide)) (h' := (hM text typed told draft s (gup past (nI ((21 * kn) + i)) (s (nI i))) (nI kn) images kept notes noted at_ alone parts held)) rfl ?_
    refine g_iinc1 dX10_keeps_77 80 rfl 1 (by decide) (nI (i + 1)) (nI_add _ 1) (by decide) rfl ?_
    refine g_goto dX10_keeps_80 51 rfl ?_
    have e : (fX10_keeps_51 s kn) i past = (gup past (nI ((21 * kn) + i)) (s (nI i))) := by rw [fX10_keeps_51]
    refine LX10_keeps_51 hk d (i + 1) (gup past (nI ((21 * kn) + i)) (s (nI i))) (by omega) ?_
    rw [← e]
    exact k
def rX10_keeps (s : Int32 → Int32) (past : Int32 → Int32) (kn : Nat) : (Int32 → Int32) × Nat := ((gLp (fX10_keeps_51 s kn) 21 0 past), kn + 1)
set_option maxRecDepth 100000 in
set_option maxHeartbeats 4000000 in
theorem MX10_keeps {w : gW} {al : Bool} {typed kept noted at_ : Int32} {text told draft s past images notes alone parts held : Int32 → Int32} {kn : Nat} (hk : kn < 8) (hk8 : ¬ (nI kn) = 8) : M w gT0 al mX10_keeps 0 0 (hM text typed told draft s past (nI kn) images kept notes noted at_ alone parts held) [.ref 0] (gEq (hM text typed told draft s ((rX10_keeps s past kn).1) (nI ((rX10_keeps s past kn).2)) images kept notes noted at_ alone parts held) none) := by
  refine M.of (L0 := [.ref 0, gF]) (by decide +kernel) (Nat.le_of_ble_eq_true rfl) rfl ?_
  refine g_aload_n dX10_keeps_0 rfl 1 rfl rfl ?_
  refine g_get (v := .int (nI kn)) dX10_keeps_1 4 rfl lX10_80 rfl rfl ?_
  refine g_bipush 8 dX10_keeps_4 6 rfl (by decide) ?_
  refine g_icmp_ne dX10_keeps_6 49 rfl 9 rfl (fun _ => ?_) (fun c => absurd c hk8)
  refine g_iconst 0 dX10_keeps_49 50 rfl (by decide) ?_
  refine g_istore1 dX10_keeps_50 51 rfl (by decide) rfl ?_
  refine LX10_keeps_51 (by omega) 21 0 past (by omega) ?_
  refine g_aload_n dX10_keeps_83 rfl 84 rfl rfl ?_
  refine g_dup dX10_keeps_84 85 rfl rfl ?_
  refine g_get (v := .int (nI kn)) dX10_keeps_85 88 rfl lX10_80 rfl rfl ?_
  refine g_iconst 1 dX10_keeps_88 89 rfl (by decide) ?_
  refine g_iadd' dX10_keeps_89 90 rfl (nI (kn + 1)) (nI_add _ 1) ?_
  refine g_put dX10_keeps_90 93 rfl lX10_80 wrX10 rfl rfl rfl rfl rfl (Nat.le_of_ble_eq_true rfl) (h' := (hM text typed told draft s (gLp (fX10_keeps_51 s kn) 21 0 past) (nI (kn + 1)) images kept notes noted at_ alone parts held)) rfl ?_
  refine g_return dX10_keeps_93 rfl (Nat.le_refl _) (Nat.le_refl _) ?_
  have e : (rX10_keeps s past kn) = ((gLp (fX10_keeps_51 s kn) 21 0 past), kn + 1) := by rw [rX10_keeps]
  rw [e]
  exact ⟨rfl, rfl⟩
def rX10_keeps_8 (s : Int32 → Int32) (past : Int32 → Int32) : (Int32 → Int32) × Int32 := ((gLp (fX10_keeps_51 s 7) 21 0 (gLp fX10_keeps_11 147 0 past)), (nI (7 + 1)))
set_option maxRecDepth 100000 in
set_option maxHeartbeats 4000000 in
theorem MX10_keeps_8 {w : gW} {al : Bool} {typed kept noted at_ : Int32} {text told draft s past images notes alone parts held : Int32 → Int32}   : M w gT0 al mX10_keeps 0 0 (hM text typed told draft s past 8 images kept notes noted at_ alone parts held) [.ref 0] (gEq (hM text typed told draft s ((rX10_keeps_8 s past).1) ((rX10_keeps_8 s past).2) images kept notes noted at_ alone parts held) none) := by
  refine M.of (L0 := [.ref 0, gF]) (by decide +kernel) (Nat.le_of_ble_eq_true rfl) rfl ?_
  refine g_aload_n dX10_keeps_0 rfl 1 rfl rfl ?_
  refine g_get (v := .int 8) dX10_keeps_1 4 rfl lX10_80 rfl rfl ?_
  refine g_bipush 8 dX10_keeps_4 6 rfl (by decide) ?_
  refine g_icmp_ne dX10_keeps_6 49 rfl 9 rfl (fun c => absurd (by decide) c) (fun _ => ?_)
  refine g_iconst 0 dX10_keeps_9 10 rfl (by decide) ?_
  refine g_istore1 dX10_keeps_10 11 rfl (by decide) rfl ?_
  refine LX10_keeps_11  147 0 past (by omega) ?_
  refine g_aload_n dX10_keeps_39 rfl 40 rfl rfl ?_
  refine g_dup dX10_keeps_40 41 rfl rfl ?_
  refine g_get (v := .int 8) dX10_keeps_41 44 rfl lX10_80 rfl rfl ?_
  refine g_iconst 1 dX10_keeps_44 45 rfl (by decide) ?_
  refine g_isub' dX10_keeps_45 46 rfl (nI 7) (by decide) ?_
  refine g_put dX10_keeps_46 49 rfl lX10_80 wrX10 rfl rfl rfl rfl rfl (Nat.le_of_ble_eq_true rfl) (h' := (hM text typed told draft s (gLp fX10_keeps_11 147 0 past) (nI 7) images kept notes noted at_ alone parts held)) rfl ?_
  refine g_iconst 0 dX10_keeps_49 50 rfl (by decide) ?_
  refine g_istore1 dX10_keeps_50 51 rfl (by decide) rfl ?_
  refine LX10_keeps_51 (by omega) 21 0 (gLp fX10_keeps_11 147 0 past) (by omega) ?_
  refine g_aload_n dX10_keeps_83 rfl 84 rfl rfl ?_
  refine g_dup dX10_keeps_84 85 rfl rfl ?_
  refine g_get (v := .int (nI 7)) dX10_keeps_85 88 rfl lX10_80 rfl rfl ?_
  refine g_iconst 1 dX10_keeps_88 89 rfl (by decide) ?_
  refine g_iadd' dX10_keeps_89 90 rfl (nI (7 + 1)) (nI_add _ 1) ?_
  refine g_put dX10_keeps_90 93 rfl lX10_80 wrX10 rfl rfl rfl rfl rfl (Nat.le_of_ble_eq_true rfl) (h' := (hM text typed told draft s (gLp (fX10_keeps_51 s 7) 21 0 (gLp fX10_keeps_11 147 0 past)) (nI (7 + 1)) images kept notes noted at_ alone parts held)) rfl ?_
  refine g_return dX10_keeps_93 rfl (Nat.le_refl _) (Nat.le_refl _) ?_
  have e : (rX10_keeps_8 s past) = ((gLp (fX10_keeps_51 s 7) 21 0 (gLp fX10_keeps_11 147 0 past)), (nI (7 + 1))) := by rw [rX10_keeps_8]
  rw [e]
  exact ⟨rfl, rfl⟩
