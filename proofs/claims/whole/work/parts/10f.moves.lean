/-! the reference: moves -/
def kNx (kn : Nat) : Nat := if kn = 8 then 8 else kn + 1
def pNx (s past : Int32 → Int32) (kn : Nat) : Int32 → Int32 := if kn = 8 then (rX10_keeps_8 s past).1 else (rX10_keeps s past kn).1
theorem MX10_keeps' {w : gW} {al : Bool} {typed kept noted at_ : Int32} {text told draft s past images notes alone parts held : Int32 → Int32} (kn : Nat) (hk : kn ≤ 8) : M w gT0 al mX10_keeps 0 0 (hM text typed told draft s past (nI kn) images kept notes noted at_ alone parts held) [.ref 0] (gEq (hM text typed told draft s (pNx s past kn) (nI (kNx kn)) images kept notes noted at_ alone parts held) none) := by
  by_cases h : kn = 8
  · subst h
    exact MX10_keeps_8
  · have q := MX10_keeps (w := w) (al := al) (text := text) (typed := typed) (told := told) (draft := draft) (s := s) (past := past) (images := images) (kept := kept) (notes := notes) (noted := noted) (at_ := at_) (alone := alone) (parts := parts) (held := held) (kn := kn) (by omega) (fun z => h ((nI_eq (a := kn) (b := 8) (by omega) (by omega)).mp z))
    have e1 : kNx kn = kn + 1 := if_neg h
    have e2 : pNx s past kn = (rX10_keeps s past kn).1 := if_neg h
    rw [e1, e2]
    exact q
def rX10_pass (s : Int32 → Int32) (past : Int32 → Int32) (m : Int32) (kn : Nat) : Int32 × (Int32 → Int32) × (Int32 → Int32) × Nat := (if (rX10_in m 1 60) = true then (((s 18) + m), (gup s 18 ((s 18) + m)), (pNx s past kn), kNx kn) else ((-1), s, past, kn))
set_option maxRecDepth 100000 in
set_option maxHeartbeats 4000000 in
theorem MX10_pass {w : gW} {al : Bool} {typed kept noted at_ : Int32} {text told draft s past images notes alone parts held : Int32 → Int32} {kn : Nat} (m : Int32) (hk : kn ≤ 8)  : M w gT0 al mX10_pass 0 0 (hM text typed told draft s past (nI kn) images kept notes noted at_ alone parts held) [.ref 0, .int m] (gEq (hM text typed told draft ((rX10_pass s past m kn).2.1) ((rX10_pass s past m kn).2.2.1) (nI ((rX10_pass s past m kn).2.2.2)) images kept notes noted at_ alone parts held) (some (.int ((rX10_pass s past m kn).1)))) := by
  refine M.of (L0 := [.ref 0, .int m]) (by decide +kernel) (Nat.le_of_ble_eq_true rfl) rfl ?_
  refine g_iload_n dX10_pass_0 rfl 1 rfl rfl ?_
  refine g_iconst 1 dX10_pass_1 2 rfl (by decide) ?_
  refine g_bipush 60 dX10_pass_2 4 rfl (by decide) ?_
  refine g_cSv (as := [.int m, .int 1, .int 60]) (st := []) dX10_pass_4 7 rfl kX10_50 ⟨Nat.le_of_ble_eq_true rfl, Nat.le_of_ble_eq_true rfl⟩ (MX10_in m 1 60) rfl (Nat.le_of_ble_eq_true rfl) (Nat.le_refl _) (Nat.le_refl _) ?_
  refine g_if_ne dX10_pass_7 12 rfl 10 rfl (fun c1 => ?_) (fun c1 => ?_)
  · replace c1 := gB_t c1
    refine g_aload_n dX10_pass_12 rfl 13 rfl rfl ?_
    refine g_cV0 (as := []) (st := []) dX10_pass_13 16 rfl kX10_110 ⟨Nat.le_of_ble_eq_true rfl, Nat.le_of_ble_eq_true rfl⟩ (MX10_keeps' kn (by omega)) rfl rfl rfl rfl (Nat.le_of_ble_eq_true rfl) (Nat.le_refl _) (Nat.le_refl _) ?_
    refine g_aload_n dX10_pass_16 rfl 17 rfl rfl ?_
    refine g_get (v := .ref 4) dX10_pass_17 20 rfl lX10_19 rfl rfl ?_
    refine g_bipush 18 dX10_pass_20 22 rfl (by decide) ?_
    refine g_dup2 dX10_pass_22 23 rfl rfl rfl ?_
    refine g_iaload (N := 21) dX10_pass_23 24 rfl rfl (vp_in_iff.mpr (by decide)) ?_
    refine g_iload_n dX10_pass_24 rfl 25 rfl rfl ?_
    refine g_iadd dX10_pass_25 26 rfl ?_
    refine g_iastore (N := 21) dX10_pass_26 27 rfl rfl (by decide) (vp_in_iff.mpr (by decide)) (h' := (hM text typed told draft (gup s 18 ((s 18) + m)) (pNx s past kn) (nI (kNx kn)) images kept notes noted at_ alone parts held)) rfl ?_
    refine g_aload_n dX10_pass_27 rfl 28 rfl rfl ?_
    refine g_get (v := .ref 4) dX10_pass_28 31 rfl lX10_19 rfl rfl ?_
    refine g_bipush 18 dX10_pass_31 33 rfl (by decide) ?_
    refine g_iaload' (N := 21) dX10_pass_33 34 rfl rfl (vp_in_iff.mpr (by decide)) ((s 18) + m) gup_s ?_
    refine g_ireturn dX10_pass_34 rfl rfl (Nat.le_refl _) (Nat.le_refl _) ?_
    have e : (rX10_pass s past m kn) = (((s 18) + m), (gup s 18 ((s 18) + m)), (pNx s past kn), kNx kn) := by rw [rX10_pass, if_pos c1]
    rw [e]
    exact ⟨rfl, rfl⟩
  · replace c1 := gB_f c1
    refine g_iconst (-1) dX10_pass_10 11 rfl (by decide) ?_
    refine g_ireturn dX10_pass_11 rfl rfl (Nat.le_refl _) (Nat.le_refl _) ?_
    have e : (rX10_pass s past m kn) = ((-1), s, past, kn) := by rw [rX10_pass, if_neg c1]
    rw [e]
    exact ⟨rfl, rfl⟩
def rX10_board (told : Int32 → Int32) (s : Int32 → Int32) (past : Int32 → Int32) (p : Nat) (sz : Nat) (kn : Nat) : Int32 × (Int32 → Int32) × (Int32 → Int32) × Nat := (if (rX10_where told s p) = 1 then ((rX10_sumOf told (gup s (nI p) 2) (rX10_allAt told (gup s (nI p) 2) 2 sz) sz), (gup s (nI p) 2), (pNx s past kn), kNx kn) else ((-2), s, past, kn))
set_option maxRecDepth 100000 in
set_option maxHeartbeats 4000000 in
theorem MX10_board {w : gW} {al : Bool} {typed kept noted at_ : Int32} {text told draft s past images notes alone parts held : Int32 → Int32} {sz kn : Nat} (p : Nat) (hsz : told 0 = nI sz) (hs : sz ≤ 9) (hk : kn ≤ 8) (hp : p < 9) (hv : rX10_isPerson told (nI p) = true)  : M w gT0 al mX10_board 0 0 (hM text typed told draft s past (nI kn) images kept notes noted at_ alone parts held) [.ref 0, .int (nI p)] (gEq (hM text typed told draft ((rX10_board told s past p sz kn).2.1) ((rX10_board told s past p sz kn).2.2.1) (nI ((rX10_board told s past p sz kn).2.2.2)) images kept notes noted at_ alone parts held) (some (.int ((rX10_board told s past p sz kn).1)))) := by
  refine M.of (L0 := [.ref 0, .int (nI p)]) (by decide +kernel) (Nat.le_of_ble_eq_true rfl) rfl ?_
  refine g_aload_n dX10_board_0 rfl 1 rfl rfl ?_
  refine g_iload_n dX10_board_1 rfl 2 rfl rfl ?_
  refine g_cVv (as := [.int (nI p)]) (st := []) dX10_board_2 5 rfl kX10_95 ⟨Nat.le_of_ble_eq_true rfl, Nat.le_of_ble_eq_true rfl⟩ (MX10_isPerson (nI p)) rfl rfl rfl rfl (Nat.le_of_ble_eq_true rfl) (Nat.le_refl _) (Nat.le_refl _) ?_
  refine g_if_ne dX10_board_5 10 rfl 8 rfl (fun _ => ?_) (fun c => absurd c (gB_1 hv))
  refine g_aload_n dX10_board_10 rfl 11 rfl rfl ?_
  refine g_iload_n dX10_board_11 rfl 12 rfl rfl ?_
  refine g_cVv (as := [.int (nI p)]) (st := []) dX10_board_12 15 rfl kX10_89 ⟨Nat.le_of_ble_eq_true rfl, Nat.le_of_ble_eq_true rfl⟩ (MX10_where p (by omega)) rfl rfl rfl rfl (Nat.le_of_ble_eq_true rfl) (Nat.le_refl _) (Nat.le_refl _) ?_
  refine g_iconst 1 dX10_board_15 16 rfl (by decide) ?_
  refine g_icmp_eq dX10_board_16 22 rfl 19 rfl (fun c1 => ?_) (fun c1 => ?_)
  · refine g_aload_n dX10_board_22 rfl 23 rfl rfl ?_
    refine g_cV0 (as := []) (st := []) dX10_board_23 26 rfl kX10_110 ⟨Nat.le_of_ble_eq_true rfl, Nat.le_of_ble_eq_true rfl⟩ (MX10_keeps' kn (by omega)) rfl rfl rfl rfl (Nat.le_of_ble_eq_true rfl) (Nat.le_refl _) (Nat.le_refl _) ?_
    refine g_aload_n dX10_board_26 rfl 27 rfl rfl ?_
    refine g_get (v := .ref 4) dX10_board_27 30 rfl lX10_19 rfl rfl ?_
    refine g_iload_n dX10_board_30 rfl 31 rfl rfl ?_
    refine g_iconst 2 dX10_board_31 32 rfl (by decide) ?_
    refine g_iastore (N := 21) dX10_board_32 33 rfl rfl (by decide) (vp_in_nI (by omega) (by decide)) (h' := (hM text typed told draft (gup s (nI p) 2) (pNx s past kn) (nI (kNx kn)) images kept notes noted at_ alone parts held)) rfl ?_
    refine g_aload_n dX10_board_33 rfl 34 rfl rfl ?_
    refine g_aload_n dX10_board_34 rfl 35 rfl rfl ?_
    refine g_iconst 2 dX10_board_35 36 rfl (by decide) ?_
    refine g_cVv (as := [.int 2]) (st := [.ref 0]) dX10_board_36 39 rfl kX10_92 ⟨Nat.le_of_ble_eq_true rfl, Nat.le_of_ble_eq_true rfl⟩ (MX10_allAt 2 hsz hs) rfl rfl rfl rfl (Nat.le_of_ble_eq_true rfl) (Nat.le_refl _) (Nat.le_refl _) ?_
    refine g_cVv (as := [.int (rX10_allAt told (gup s (nI p) 2) 2 sz)]) (st := []) dX10_board_39 42 rfl kX10_101 ⟨Nat.le_of_ble_eq_true rfl, Nat.le_of_ble_eq_true rfl⟩ (MX10_sumOf (rX10_allAt told (gup s (nI p) 2) 2 sz) hsz hs) rfl rfl rfl rfl (Nat.le_of_ble_eq_true rfl) (Nat.le_refl _) (Nat.le_refl _) ?_
    refine g_ireturn dX10_board_42 rfl rfl (Nat.le_refl _) (Nat.le_refl _) ?_
    have e : (rX10_board told s past p sz kn) = ((rX10_sumOf told (gup s (nI p) 2) (rX10_allAt told (gup s (nI p) 2) 2 sz) sz), (gup s (nI p) 2), (pNx s past kn), kNx kn) := by rw [rX10_board, if_pos c1]
    rw [e]
    exact ⟨rfl, rfl⟩
  · refine g_bipush (-2) dX10_board_19 21 rfl (by decide) ?_
    refine g_ireturn dX10_board_21 rfl rfl (Nat.le_refl _) (Nat.le_refl _) ?_
    have e : (rX10_board told s past p sz kn) = ((-2), s, past, kn) := by rw [rX10_board, if_neg c1]
    rw [e]
    exact ⟨rfl, rfl⟩
def rX10_board_x  : Int32 := (-1)
set_option maxRecDepth 100000 in
set_option maxHeartbeats 4000000 in
theorem MX10_board_x {w : gW} {al : Bool} {typed kept noted at_ : Int32} {text told draft s past images notes alone parts held : Int32 → Int32} {sz kn : Nat} (p : Int32) (hsz : told 0 = nI sz) (hs : sz ≤ 9) (hk : kn ≤ 8) (hv : ¬ rX10_isPerson told p = true)  : M w gT0 al mX10_board 0 0 (hM text typed told draft s past (nI kn) images kept notes noted at_ alone parts held) [.ref 0, .int p] (gEq (hM text typed told draft s past (nI kn) images kept notes noted at_ alone parts held) (some (.int rX10_board_x))) := by
  refine M.of (L0 := [.ref 0, .int p]) (by decide +kernel) (Nat.le_of_ble_eq_true rfl) rfl ?_
  refine g_aload_n dX10_board_0 rfl 1 rfl rfl ?_
  refine g_iload_n dX10_board_1 rfl 2 rfl rfl ?_
  refine g_cVv (as := [.int p]) (st := []) dX10_board_2 5 rfl kX10_95 ⟨Nat.le_of_ble_eq_true rfl, Nat.le_of_ble_eq_true rfl⟩ (MX10_isPerson p) rfl rfl rfl rfl (Nat.le_of_ble_eq_true rfl) (Nat.le_refl _) (Nat.le_refl _) ?_
  refine g_if_ne dX10_board_5 10 rfl 8 rfl (fun c => absurd (gB_0 hv) c) (fun _ => ?_)
  refine g_iconst (-1) dX10_board_8 9 rfl (by decide) ?_
  refine g_ireturn dX10_board_9 rfl rfl (Nat.le_refl _) (Nat.le_refl _) ?_
  have e : rX10_board_x = (-1) := by rw [rX10_board_x]
  rw [e]
  exact ⟨rfl, rfl⟩
def rX10_stepOff (told : Int32 → Int32) (s : Int32 → Int32) (past : Int32 → Int32) (p : Nat) (sz : Nat) (kn : Nat) : Int32 × (Int32 → Int32) × (Int32 → Int32) × Nat := (if (rX10_where told s p) = 2 then ((rX10_sumOf told (gup s (nI p) 0) (rX10_allAt told (gup s (nI p) 0) 2 sz) sz), (gup s (nI p) 0), (pNx s past kn), kNx kn) else ((-2), s, past, kn))
set_option maxRecDepth 100000 in
set_option maxHeartbeats 4000000 in
theorem MX10_stepOff {w : gW} {al : Bool} {typed kept noted at_ : Int32} {text told draft s past images notes alone parts held : Int32 → Int32} {sz kn : Nat} (p : Nat) (hsz : told 0 = nI sz) (hs : sz ≤ 9) (hk : kn ≤ 8) (hp : p < 9) (hv : rX10_isPerson told (nI p) = true)  : M w gT0 al mX10_stepOff 0 0 (hM text typed told draft s past (nI kn) images kept notes noted at_ alone parts held) [.ref 0, .int (nI p)] (gEq (hM text typed told draft ((rX10_stepOff told s past p sz kn).2.1) ((rX10_stepOff told s past p sz kn).2.2.1) (nI ((rX10_stepOff told s past p sz kn).2.2.2)) images kept notes noted at_ alone parts held) (some (.int ((rX10_stepOff told s past p sz kn).1)))) := by
  refine M.of (L0 := [.ref 0, .int (nI p)]) (by decide +kernel) (Nat.le_of_ble_eq_true rfl) rfl ?_
  refine g_aload_n dX10_stepOff_0 rfl 1 rfl rfl ?_
  refine g_iload_n dX10_stepOff_1 rfl 2 rfl rfl ?_
  refine g_cVv (as := [.int (nI p)]) (st := []) dX10_stepOff_2 5 rfl kX10_95 ⟨Nat.le_of_ble_eq_true rfl, Nat.le_of_ble_eq_true rfl⟩ (MX10_isPerson (nI p)) rfl rfl rfl rfl (Nat.le_of_ble_eq_true rfl) (Nat.le_refl _) (Nat.le_refl _) ?_
  refine g_if_ne dX10_stepOff_5 10 rfl 8 rfl (fun _ => ?_) (fun c => absurd c (gB_1 hv))
  refine g_aload_n dX10_stepOff_10 rfl 11 rfl rfl ?_
  refine g_iload_n dX10_stepOff_11 rfl 12 rfl rfl ?_
  refine g_cVv (as := [.int (nI p)]) (st := []) dX10_stepOff_12 15 rfl kX10_89 ⟨Nat.le_of_ble_eq_true rfl, Nat.le_of_ble_eq_true rfl⟩ (MX10_where p (by omega)) rfl rfl rfl rfl (Nat.le_of_ble_eq_true rfl) (Nat.le_refl _) (Nat.le_refl _) ?_
  refine g_iconst 2 dX10_stepOff_15 16 rfl (by decide) ?_
  refine g_icmp_eq dX10_stepOff_16 22 rfl 19 rfl (fun c1 => ?_) (fun c1 => ?_)
  · refine g_aload_n dX10_stepOff_22 rfl 23 rfl rfl ?_
    refine g_cV0 (as := []) (st := []) dX10_stepOff_23 26 rfl kX10_110 ⟨Nat.le_of_ble_eq_true rfl, Nat.le_of_ble_eq_true rfl⟩ (MX10_keeps' kn (by omega)) rfl rfl rfl rfl (Nat.le_of_ble_eq_true rfl) (Nat.le_refl _) (Nat.le_refl _) ?_
    refine g_aload_n dX10_stepOff_26 rfl 27 rfl rfl ?_
    refine g_get (v := .ref 4) dX10_stepOff_27 30 rfl lX10_19 rfl rfl ?_
    refine g_iload_n dX10_stepOff_30 rfl 31 rfl rfl ?_
    refine g_iconst 0 dX10_stepOff_31 32 rfl (by decide) ?_
    refine g_iastore (N := 21) dX10_stepOff_32 33 rfl rfl (by decide) (vp_in_nI (by omega) (by decide)) (h' := (hM text typed told draft (gup s (nI p) 0) (pNx s past kn) (nI (kNx kn)) images kept notes noted at_ alone parts held)) rfl ?_
    refine g_aload_n dX10_stepOff_33 rfl 34 rfl rfl ?_
    refine g_aload_n dX10_stepOff_34 rfl 35 rfl rfl ?_
    refine g_iconst 2 dX10_stepOff_35 36 rfl (by decide) ?_
    refine g_cVv (as := [.int 2]) (st := [.ref 0]) dX10_stepOff_36 39 rfl kX10_92 ⟨Nat.le_of_ble_eq_true rfl, Nat.le_of_ble_eq_true rfl⟩ (MX10_allAt 2 hsz hs) rfl rfl rfl rfl (Nat.le_of_ble_eq_true rfl) (Nat.le_refl _) (Nat.le_refl _) ?_
    refine g_cVv (as := [.int (rX10_allAt told (gup s (nI p) 0) 2 sz)]) (st := []) dX10_stepOff_39 42 rfl kX10_101 ⟨Nat.le_of_ble_eq_true rfl, Nat.le_of_ble_eq_true rfl⟩ (MX10_sumOf (rX10_allAt told (gup s (nI p) 0) 2 sz) hsz hs) rfl rfl rfl rfl (Nat.le_of_ble_eq_true rfl) (Nat.le_refl _) (Nat.le_refl _) ?_
    refine g_ireturn dX10_stepOff_42 rfl rfl (Nat.le_refl _) (Nat.le_refl _) ?_
    have e : (rX10_stepOff told s past p sz kn) = ((rX10_sumOf told (gup s (nI p) 0) (rX10_allAt told (gup s (nI p) 0) 2 sz) sz), (gup s (nI p) 0), (pNx s past kn), kNx kn) := by rw [rX10_stepOff, if_pos c1]
    rw [e]
    exact ⟨rfl, rfl⟩
  · refine g_bipush (-2) dX10_stepOff_19 21 rfl (by decide) ?_
    refine g_ireturn dX10_stepOff_21 rfl rfl (Nat.le_refl _) (Nat.le_refl _) ?_
    have e : (rX10_stepOff told s past p sz kn) = ((-2), s, past, kn) := by rw [rX10_stepOff, if_neg c1]
    rw [e]
    exact ⟨rfl, rfl⟩
def rX10_stepOff_x  : Int32 := (-1)
set_option maxRecDepth 100000 in
set_option maxHeartbeats 4000000 in
theorem MX10_stepOff_x {w : gW} {al : Bool} {typed kept noted at_ : Int32} {text told draft s past images notes alone parts held : Int32 → Int32} {sz kn : Nat} (p : Int32) (hsz : told 0 = nI sz) (hs : sz ≤ 9) (hk : kn ≤ 8) (hv : ¬ rX10_isPerson told p = true)  : M w gT0 al mX10_stepOff 0 0 (hM text typed told draft s past (nI kn) images kept notes noted at_ alone parts held) [.ref 0, .int p] (gEq (hM text typed told draft s past (nI kn) images kept notes noted at_ alone parts held) (some (.int rX10_stepOff_x))) := by
  refine M.of (L0 := [.ref 0, .int p]) (by decide +kernel) (Nat.le_of_ble_eq_true rfl) rfl ?_
  refine g_aload_n dX10_stepOff_0 rfl 1 rfl rfl ?_
  refine g_iload_n dX10_stepOff_1 rfl 2 rfl rfl ?_
  refine g_cVv (as := [.int p]) (st := []) dX10_stepOff_2 5 rfl kX10_95 ⟨Nat.le_of_ble_eq_true rfl, Nat.le_of_ble_eq_true rfl⟩ (MX10_isPerson p) rfl rfl rfl rfl (Nat.le_of_ble_eq_true rfl) (Nat.le_refl _) (Nat.le_refl _) ?_
  refine g_if_ne dX10_stepOff_5 10 rfl 8 rfl (fun c => absurd (gB_0 hv) c) (fun _ => ?_)
  refine g_iconst (-1) dX10_stepOff_8 9 rfl (by decide) ?_
  refine g_ireturn dX10_stepOff_9 rfl rfl (Nat.le_refl _) (Nat.le_refl _) ?_
  have e : rX10_stepOff_x = (-1) := by rw [rX10_stepOff_x]
  rw [e]
  exact ⟨rfl, rfl⟩
def rX10_die (told : Int32 → Int32) (s : Int32 → Int32) (past : Int32 → Int32) (p : Nat) (kn : Nat) : Int32 × (Int32 → Int32) × (Int32 → Int32) × Nat := (if (rX10_where told s p) ≤ 2 then ((rX10_where told s p), (gup s (nI p) 4), (pNx s past kn), kNx kn) else ((-2), s, past, kn))
set_option maxRecDepth 100000 in
set_option maxHeartbeats 4000000 in
theorem MX10_die {w : gW} {al : Bool} {typed kept noted at_ : Int32} {text told draft s past images notes alone parts held : Int32 → Int32} {sz kn : Nat} (p : Nat) (hsz : told 0 = nI sz) (hs : sz ≤ 9) (hk : kn ≤ 8) (hp : p < 9) (hv : rX10_isPerson told (nI p) = true)  : M w gT0 al mX10_die 0 0 (hM text typed told draft s past (nI kn) images kept notes noted at_ alone parts held) [.ref 0, .int (nI p)] (gEq (hM text typed told draft ((rX10_die told s past p kn).2.1) ((rX10_die told s past p kn).2.2.1) (nI ((rX10_die told s past p kn).2.2.2)) images kept notes noted at_ alone parts held) (some (.int ((rX10_die told s past p kn).1)))) := by
  refine M.of (L0 := [.ref 0, .int (nI p), gF]) (by decide +kernel) (Nat.le_of_ble_eq_true rfl) rfl ?_
  refine g_aload_n dX10_die_0 rfl 1 rfl rfl ?_
  refine g_iload_n dX10_die_1 rfl 2 rfl rfl ?_
  refine g_cVv (as := [.int (nI p)]) (st := []) dX10_die_2 5 rfl kX10_95 ⟨Nat.le_of_ble_eq_true rfl, Nat.le_of_ble_eq_true rfl⟩ (MX10_isPerson (nI p)) rfl rfl rfl rfl (Nat.le_of_ble_eq_true rfl) (Nat.le_refl _) (Nat.le_refl _) ?_
  refine g_if_ne dX10_die_5 10 rfl 8 rfl (fun _ => ?_) (fun c => absurd c (gB_1 hv))
  refine g_aload_n dX10_die_10 rfl 11 rfl rfl ?_
  refine g_iload_n dX10_die_11 rfl 12 rfl rfl ?_
  refine g_cVv (as := [.int (nI p)]) (st := []) dX10_die_12 15 rfl kX10_89 ⟨Nat.le_of_ble_eq_true rfl, Nat.le_of_ble_eq_true rfl⟩ (MX10_where p (by omega)) rfl rfl rfl rfl (Nat.le_of_ble_eq_true rfl) (Nat.le_refl _) (Nat.le_refl _) ?_
  refine g_istore2 dX10_die_15 16 rfl (by decide) rfl ?_
  refine g_iload_n dX10_die_16 rfl 17 rfl rfl ?_
  refine g_iconst 2 dX10_die_17 18 rfl (by decide) ?_
  refine g_icmp_le dX10_die_18 24 rfl 21 rfl (fun c1 => ?_) (fun c1 => ?_)
  · refine g_aload_n dX10_die_24 rfl 25 rfl rfl ?_
    refine g_cV0 (as := []) (st := []) dX10_die_25 28 rfl kX10_110 ⟨Nat.le_of_ble_eq_true rfl, Nat.le_of_ble_eq_true rfl⟩ (MX10_keeps' kn (by omega)) rfl rfl rfl rfl (Nat.le_of_ble_eq_true rfl) (Nat.le_refl _) (Nat.le_refl _) ?_
    refine g_aload_n dX10_die_28 rfl 29 rfl rfl ?_
    refine g_get (v := .ref 4) dX10_die_29 32 rfl lX10_19 rfl rfl ?_
    refine g_iload_n dX10_die_32 rfl 33 rfl rfl ?_
    refine g_iconst 4 dX10_die_33 34 rfl (by decide) ?_
    refine g_iastore (N := 21) dX10_die_34 35 rfl rfl (by decide) (vp_in_nI (by omega) (by decide)) (h' := (hM text typed told draft (gup s (nI p) 4) (pNx s past kn) (nI (kNx kn)) images kept notes noted at_ alone parts held)) rfl ?_
    refine g_iload_n dX10_die_35 rfl 36 rfl rfl ?_
    refine g_ireturn dX10_die_36 rfl rfl (Nat.le_refl _) (Nat.le_refl _) ?_
    have e : (rX10_die told s past p kn) = ((rX10_where told s p), (gup s (nI p) 4), (pNx s past kn), kNx kn) := by rw [rX10_die, if_pos c1]
    rw [e]
    exact ⟨rfl, rfl⟩
  · refine g_bipush (-2) dX10_die_21 23 rfl (by decide) ?_
    refine g_ireturn dX10_die_23 rfl rfl (Nat.le_refl _) (Nat.le_refl _) ?_
    have e : (rX10_die told s past p kn) = ((-2), s, past, kn) := by rw [rX10_die, if_neg c1]
    rw [e]
    exact ⟨rfl, rfl⟩
def rX10_die_x  : Int32 := (-1)
set_option maxRecDepth 100000 in
set_option maxHeartbeats 4000000 in
theorem MX10_die_x {w : gW} {al : Bool} {typed kept noted at_ : Int32} {text told draft s past images notes alone parts held : Int32 → Int32} {sz kn : Nat} (p : Int32) (hsz : told 0 = nI sz) (hs : sz ≤ 9) (hk : kn ≤ 8) (hv : ¬ rX10_isPerson told p = true)  : M w gT0 al mX10_die 0 0 (hM text typed told draft s past (nI kn) images kept notes noted at_ alone parts held) [.ref 0, .int p] (gEq (hM text typed told draft s past (nI kn) images kept notes noted at_ alone parts held) (some (.int rX10_die_x))) := by
  refine M.of (L0 := [.ref 0, .int p, gF]) (by decide +kernel) (Nat.le_of_ble_eq_true rfl) rfl ?_
  refine g_aload_n dX10_die_0 rfl 1 rfl rfl ?_
  refine g_iload_n dX10_die_1 rfl 2 rfl rfl ?_
  refine g_cVv (as := [.int p]) (st := []) dX10_die_2 5 rfl kX10_95 ⟨Nat.le_of_ble_eq_true rfl, Nat.le_of_ble_eq_true rfl⟩ (MX10_isPerson p) rfl rfl rfl rfl (Nat.le_of_ble_eq_true rfl) (Nat.le_refl _) (Nat.le_refl _) ?_
  refine g_if_ne dX10_die_5 10 rfl 8 rfl (fun c => absurd (gB_0 hv) c) (fun _ => ?_)
  refine g_iconst (-1) dX10_die_8 9 rfl (by decide) ?_
  refine g_ireturn dX10_die_9 rfl rfl (Nat.le_refl _) (Nat.le_refl _) ?_
  have e : rX10_die_x = (-1) := by rw [rX10_die_x]
  rw [e]
  exact ⟨rfl, rfl⟩
def rX10_sail (told : Int32 → Int32) (s : Int32 → Int32) (past : Int32 → Int32) (sz : Nat) (kn : Nat) : Int32 × (Int32 → Int32) × (Int32 → Int32) × Nat := (if (rX10_sails told s (rX10_allAt told s 2 sz) sz) = true then (((rX10_goes told s sz).1), ((rX10_goes told s sz).2), (pNx s past kn), kNx kn) else ((-2), s, past, kn))
set_option maxRecDepth 100000 in
set_option maxHeartbeats 4000000 in
theorem MX10_sail {w : gW} {al : Bool} {typed kept noted at_ : Int32} {text told draft s past images notes alone parts held : Int32 → Int32} {sz kn : Nat} (hsz : told 0 = nI sz) (hs : sz ≤ 9) (hk : kn ≤ 8)  : M w gT0 al mX10_sail 0 0 (hM text typed told draft s past (nI kn) images kept notes noted at_ alone parts held) [.ref 0] (gEq (hM text typed told draft ((rX10_sail told s past sz kn).2.1) ((rX10_sail told s past sz kn).2.2.1) (nI ((rX10_sail told s past sz kn).2.2.2)) images kept notes noted at_ alone parts held) (some (.int ((rX10_sail told s past sz kn).1)))) := by
  refine M.of (L0 := [.ref 0]) (by decide +kernel) (Nat.le_of_ble_eq_true rfl) rfl ?_
  refine g_aload_n dX10_sail_0 rfl 1 rfl rfl ?_
  refine g_aload_n dX10_sail_1 rfl 2 rfl rfl ?_
  refine g_iconst 2 dX10_sail_2 3 rfl (by decide) ?_
  refine g_cVv (as := [.int 2]) (st := [.ref 0]) dX10_sail_3 6 rfl kX10_92 ⟨Nat.le_of_ble_eq_true rfl, Nat.le_of_ble_eq_true rfl⟩ (MX10_allAt 2 hsz hs) rfl rfl rfl rfl (Nat.le_of_ble_eq_true rfl) (Nat.le_refl _) (Nat.le_refl _) ?_
  refine g_cVv (as := [.int (rX10_allAt told s 2 sz)]) (st := []) dX10_sail_6 9 rfl kX10_104 ⟨Nat.le_of_ble_eq_true rfl, Nat.le_of_ble_eq_true rfl⟩ (MX10_sails (rX10_allAt told s 2 sz) hsz hs) rfl rfl rfl rfl (Nat.le_of_ble_eq_true rfl) (Nat.le_refl _) (Nat.le_refl _) ?_
  refine g_if_ne dX10_sail_9 15 rfl 12 rfl (fun c1 => ?_) (fun c1 => ?_)
  · replace c1 := gB_t c1
    refine g_aload_n dX10_sail_15 rfl 16 rfl rfl ?_
    refine g_cV0 (as := []) (st := []) dX10_sail_16 19 rfl kX10_110 ⟨Nat.le_of_ble_eq_true rfl, Nat.le_of_ble_eq_true rfl⟩ (MX10_keeps' kn (by omega)) rfl rfl rfl rfl (Nat.le_of_ble_eq_true rfl) (Nat.le_refl _) (Nat.le_refl _) ?_
    refine g_aload_n dX10_sail_19 rfl 20 rfl rfl ?_
    refine g_cVv (as := []) (st := []) dX10_sail_20 23 rfl kX10_113 ⟨Nat.le_of_ble_eq_true rfl, Nat.le_of_ble_eq_true rfl⟩ (MX10_goes hsz hs) rfl rfl rfl rfl (Nat.le_of_ble_eq_true rfl) (Nat.le_refl _) (Nat.le_refl _) ?_
    refine g_ireturn dX10_sail_23 rfl rfl (Nat.le_refl _) (Nat.le_refl _) ?_
    have e : (rX10_sail told s past sz kn) = (((rX10_goes told s sz).1), ((rX10_goes told s sz).2), (pNx s past kn), kNx kn) := by rw [rX10_sail, if_pos c1]
    rw [e]
    exact ⟨rfl, rfl⟩
  · replace c1 := gB_f c1
    refine g_bipush (-2) dX10_sail_12 14 rfl (by decide) ?_
    refine g_ireturn dX10_sail_14 rfl rfl (Nat.le_refl _) (Nat.le_refl _) ?_
    have e : (rX10_sail told s past sz kn) = ((-2), s, past, kn) := by rw [rX10_sail, if_neg c1]
    rw [e]
    exact ⟨rfl, rfl⟩
