/-! the reference: its heap, and its methods without a loop -/
def hM (text : Int32 → Int32) (typed : Int32) (told draft s past : Int32 → Int32) (known : Int32) (images : Int32 → Int32) (kept : Int32) (notes : Int32 → Int32) (noted at_ : Int32) (alone parts held : Int32 → Int32) : gH :=
  [.inr (.inr (10, [.ref 1, .int typed, .ref 2, .ref 3, .ref 4, .ref 5, .int known, .ref 6, .int kept, .ref 7, .int noted, .int at_, .ref 8, .ref 9, .ref 10])), .inl (200, text), .inl (40, told), .inl (40, draft), .inl (21, s), .inl (168, past), .inl (42, images), .inl (5, notes), .inl (512, alone), .inl (512, parts), .inl (21, held)]
def gB (b : Bool) : Int32 := if b = true then 1 else 0
theorem gB_f {b : Bool} (h : gB b = 0) : ¬ b = true := by cases b <;> simp_all [gB]
theorem gB_t {b : Bool} (h : ¬ gB b = 0) : b = true := by cases b <;> simp_all [gB]
theorem gB_0 {b : Bool} (h : ¬ b = true) : gB b = 0 := by cases b <;> simp_all [gB]
theorem gB_1 {b : Bool} (h : b = true) : ¬ gB b = 0 := by cases b <;> simp_all [gB]
theorem gB_nar (b : Bool) : narrow .boolean (.int (gB b)) = .int (gB b) := by cases b <;> rfl
def rX10_in (v : Int32) (low : Int32) (high : Int32) : Bool := (if v < low then false else (if high < v then false else true))
set_option maxRecDepth 100000 in
set_option maxHeartbeats 4000000 in
theorem MX10_in {w : gW} {al : Bool} {h : gH}  (v : Int32) (low : Int32) (high : Int32)  : M w gT0 al mX10_in 0 0 h [.int v, .int low, .int high] (gEq h (some (.int (gB (rX10_in v low high))))) := by
  refine M.of (L0 := [.int v, .int low, .int high]) (by decide +kernel) (Nat.le_of_ble_eq_true rfl) rfl ?_
  refine g_iload_n dX10_in_0 rfl 1 rfl rfl ?_
  refine g_iload_n dX10_in_1 rfl 2 rfl rfl ?_
  refine g_icmp_lt dX10_in_2 14 rfl 5 rfl (fun c1 => ?_) (fun c1 => ?_)
  · refine g_iconst 0 dX10_in_14 15 rfl (by decide) ?_
    refine g_ireturn dX10_in_15 rfl rfl (Nat.le_refl _) (Nat.le_refl _) ?_
    have e : (rX10_in v low high) = false := by rw [rX10_in, if_pos c1]
    rw [e]
    exact ⟨rfl, rfl⟩
  · refine g_iload_n dX10_in_5 rfl 6 rfl rfl ?_
    refine g_iload_n dX10_in_6 rfl 7 rfl rfl ?_
    refine g_icmp_gt dX10_in_7 14 rfl 10 rfl (fun c2 => ?_) (fun c2 => ?_)
    · refine g_iconst 0 dX10_in_14 15 rfl (by decide) ?_
      refine g_ireturn dX10_in_15 rfl rfl (Nat.le_refl _) (Nat.le_refl _) ?_
      have e : (rX10_in v low high) = false := by rw [rX10_in, if_neg c1, if_pos c2]
      rw [e]
      exact ⟨rfl, rfl⟩
    · refine g_iconst 1 dX10_in_10 11 rfl (by decide) ?_
      refine g_goto dX10_in_11 15 rfl ?_
      refine g_ireturn dX10_in_15 rfl rfl (Nat.le_refl _) (Nat.le_refl _) ?_
      have e : (rX10_in v low high) = true := by rw [rX10_in, if_neg c1, if_neg c2]
      rw [e]
      exact ⟨rfl, rfl⟩
def rX10_isPerson (told : Int32 → Int32) (p : Int32) : Bool := (rX10_in p 0 ((told 0) - 1))
set_option maxRecDepth 100000 in
set_option maxHeartbeats 4000000 in
theorem MX10_isPerson {w : gW} {al : Bool} {typed known kept noted at_ : Int32} {text told draft s past images notes alone parts held : Int32 → Int32}  (p : Int32)  : M w gT0 al mX10_isPerson 0 0 (hM text typed told draft s past known images kept notes noted at_ alone parts held) [.ref 0, .int p] (gEq (hM text typed told draft s past known images kept notes noted at_ alone parts held) (some (.int (gB (rX10_isPerson told p))))) := by
  refine M.of (L0 := [.ref 0, .int p]) (by decide +kernel) (Nat.le_of_ble_eq_true rfl) rfl ?_
  refine g_iload_n dX10_isPerson_0 rfl 1 rfl rfl ?_
  refine g_iconst 0 dX10_isPerson_1 2 rfl (by decide) ?_
  refine g_aload_n dX10_isPerson_2 rfl 3 rfl rfl ?_
  refine g_get (v := .ref 2) dX10_isPerson_3 6 rfl lX10_13 rfl rfl ?_
  refine g_iconst 0 dX10_isPerson_6 7 rfl (by decide) ?_
  refine g_iaload (N := 40) dX10_isPerson_7 8 rfl rfl (vp_in_iff.mpr (by decide)) ?_
  refine g_iconst 1 dX10_isPerson_8 9 rfl (by decide) ?_
  refine g_isub dX10_isPerson_9 10 rfl ?_
  refine g_cSv (as := [.int p, .int 0, .int ((told 0) - 1)]) (st := []) dX10_isPerson_10 13 rfl kX10_50 ⟨Nat.le_of_ble_eq_true rfl, Nat.le_of_ble_eq_true rfl⟩ (MX10_in p 0 ((told 0) - 1)) rfl (Nat.le_of_ble_eq_true rfl) (Nat.le_refl _) (Nat.le_refl _) ?_
  refine g_ireturn dX10_isPerson_13 rfl (gB_nar _) (Nat.le_refl _) (Nat.le_refl _) ?_
  have e : (rX10_isPerson told p) = (rX10_in p 0 ((told 0) - 1)) := by rw [rX10_isPerson]
  rw [e]
  exact ⟨rfl, rfl⟩
def rX10_isFigure (v : Int32) : Bool := (rX10_in v 48 57)
set_option maxRecDepth 100000 in
set_option maxHeartbeats 4000000 in
theorem MX10_isFigure {w : gW} {al : Bool} {h : gH}  (v : Int32)  : M w gT0 al mX10_isFigure 0 0 h [.int v] (gEq h (some (.int (gB (rX10_isFigure v))))) := by
  refine M.of (L0 := [.int v]) (by decide +kernel) (Nat.le_of_ble_eq_true rfl) rfl ?_
  refine g_iload_n dX10_isFigure_0 rfl 1 rfl rfl ?_
  refine g_bipush 48 dX10_isFigure_1 3 rfl (by decide) ?_
  refine g_bipush 57 dX10_isFigure_3 5 rfl (by decide) ?_
  refine g_cSv (as := [.int v, .int 48, .int 57]) (st := []) dX10_isFigure_5 8 rfl kX10_50 ⟨Nat.le_of_ble_eq_true rfl, Nat.le_of_ble_eq_true rfl⟩ (MX10_in v 48 57) rfl (Nat.le_of_ble_eq_true rfl) (Nat.le_refl _) (Nat.le_refl _) ?_
  refine g_ireturn dX10_isFigure_8 rfl (gB_nar _) (Nat.le_refl _) (Nat.le_refl _) ?_
  have e : (rX10_isFigure v) = (rX10_in v 48 57) := by rw [rX10_isFigure]
  rw [e]
  exact ⟨rfl, rfl⟩
def rX10_where (told : Int32 → Int32) (s : Int32 → Int32) (p : Nat) : Int32 := (if (s (nI p)) ≤ 0 then (if (s 18) < (told (nI (22 + p))) then 0 else 1) else (s (nI p)))
set_option maxRecDepth 100000 in
set_option maxHeartbeats 4000000 in
theorem MX10_where {w : gW} {al : Bool} {typed known kept noted at_ : Int32} {text told draft s past images notes alone parts held : Int32 → Int32}  (p : Nat) (hp : p < 9) : M w gT0 al mX10_where 0 0 (hM text typed told draft s past known images kept notes noted at_ alone parts held) [.ref 0, .int (nI p)] (gEq (hM text typed told draft s past known images kept notes noted at_ alone parts held) (some (.int (rX10_where told s p)))) := by
  refine M.of (L0 := [.ref 0, .int (nI p)]) (by decide +kernel) (Nat.le_of_ble_eq_true rfl) rfl ?_
  refine g_aload_n dX10_where_0 rfl 1 rfl rfl ?_
  refine g_get (v := .ref 4) dX10_where_1 4 rfl lX10_19 rfl rfl ?_
  refine g_iload_n dX10_where_4 rfl 5 rfl rfl ?_
  refine g_iaload (N := 21) dX10_where_5 6 rfl rfl (vp_in_nI (by omega) (by decide)) ?_
  refine g_if_le dX10_where_6 18 rfl 9 rfl (fun c1 => ?_) (fun c1 => ?_)
  · refine g_aload_n dX10_where_18 rfl 19 rfl rfl ?_
    refine g_get (v := .ref 4) dX10_where_19 22 rfl lX10_19 rfl rfl ?_
    refine g_bipush 18 dX10_where_22 24 rfl (by decide) ?_
    refine g_iaload (N := 21) dX10_where_24 25 rfl rfl (vp_in_iff.mpr (by decide)) ?_
    refine g_aload_n dX10_where_25 rfl 26 rfl rfl ?_
    refine g_get (v := .ref 2) dX10_where_26 29 rfl lX10_13 rfl rfl ?_
    refine g_bipush 22 dX10_where_29 31 rfl (by decide) ?_
    refine g_iload_n dX10_where_31 rfl 32 rfl rfl ?_
    refine g_iadd' dX10_where_32 33 rfl (nI (22 + p)) (nI_add 22 _) ?_
    refine g_iaload (N := 40) dX10_where_33 34 rfl rfl (vp_in_nI (by omega) (by decide)) ?_
    refine g_icmp_lt dX10_where_34 41 rfl 37 rfl (fun c2 => ?_) (fun c2 => ?_)
    · refine g_iconst 0 dX10_where_41 42 rfl (by decide) ?_
      refine g_ireturn dX10_where_42 rfl rfl (Nat.le_refl _) (Nat.le_refl _) ?_
      have e : (rX10_where told s p) = 0 := by rw [rX10_where, if_pos c1, if_pos c2]
      rw [e]
      exact ⟨rfl, rfl⟩
    · refine g_iconst 1 dX10_where_37 38 rfl (by decide) ?_
      refine g_goto dX10_where_38 42 rfl ?_
      refine g_ireturn dX10_where_42 rfl rfl (Nat.le_refl _) (Nat.le_refl _) ?_
      have e : (rX10_where told s p) = 1 := by rw [rX10_where, if_pos c1, if_neg c2]
      rw [e]
      exact ⟨rfl, rfl⟩
  · refine g_aload_n dX10_where_9 rfl 10 rfl rfl ?_
    refine g_get (v := .ref 4) dX10_where_10 13 rfl lX10_19 rfl rfl ?_
    refine g_iload_n dX10_where_13 rfl 14 rfl rfl ?_
    refine g_iaload (N := 21) dX10_where_14 15 rfl rfl (vp_in_nI (by omega) (by decide)) ?_
    refine g_goto dX10_where_15 42 rfl ?_
    refine g_ireturn dX10_where_42 rfl rfl (Nat.le_refl _) (Nat.le_refl _) ?_
    have e : (rX10_where told s p) = (s (nI p)) := by rw [rX10_where, if_neg c1]
    rw [e]
    exact ⟨rfl, rfl⟩
def rX10_write (text : Int32 → Int32) (letter : Int32) (ty : Nat) : Int32 × (Int32 → Int32) × Int32 := (if (rX10_in letter 32 126) = true then (if (nI ty) = 200 then ((-3), text, (nI ty)) else ((nI (ty + 1)), (gup text (nI ty) letter), (nI (ty + 1)))) else ((-1), text, (nI ty)))
set_option maxRecDepth 100000 in
set_option maxHeartbeats 4000000 in
theorem MX10_write {w : gW} {al : Bool} {known kept noted at_ : Int32} {text told draft s past images notes alone parts held : Int32 → Int32} {ty : Nat} (letter : Int32) (ht : ty ≤ 200) : M w gT0 al mX10_write 0 0 (hM text (nI ty) told draft s past known images kept notes noted at_ alone parts held) [.ref 0, .int letter] (gEq (hM ((rX10_write text letter ty).2.1) ((rX10_write text letter ty).2.2) told draft s past known images kept notes noted at_ alone parts held) (some (.int ((rX10_write text letter ty).1)))) := by
  refine M.of (L0 := [.ref 0, .int letter]) (by decide +kernel) (Nat.le_of_ble_eq_true rfl) rfl ?_
  refine g_iload_n dX10_write_0 rfl 1 rfl rfl ?_
  refine g_bipush 32 dX10_write_1 3 rfl (by decide) ?_
  refine g_bipush 126 dX10_write_3 5 rfl (by decide) ?_
  refine g_cSv (as := [.int letter, .int 32, .int 126]) (st := []) dX10_write_5 8 rfl kX10_50 ⟨Nat.le_of_ble_eq_true rfl, Nat.le_of_ble_eq_true rfl⟩ (MX10_in letter 32 126) rfl (Nat.le_of_ble_eq_true rfl) (Nat.le_refl _) (Nat.le_refl _) ?_
  refine g_if_ne dX10_write_8 13 rfl 11 rfl (fun c1 => ?_) (fun c1 => ?_)
  · replace c1 := gB_t c1
    refine g_aload_n dX10_write_13 rfl 14 rfl rfl ?_
    refine g_get (v := .int (nI ty)) dX10_write_14 17 rfl lX10_54 rfl rfl ?_
    refine g_sipush 200 dX10_write_17 20 rfl (by decide) ?_
    refine g_icmp_ne dX10_write_20 26 rfl 23 rfl (fun c2 => ?_) (fun c2 => ?_)
    · refine g_aload_n dX10_write_26 rfl 27 rfl rfl ?_
      refine g_get (v := .ref 1) dX10_write_27 30 rfl lX10_7 rfl rfl ?_
      refine g_aload_n dX10_write_30 rfl 31 rfl rfl ?_
      refine g_get (v := .int (nI ty)) dX10_write_31 34 rfl lX10_54 rfl rfl ?_
      refine g_iload_n dX10_write_34 rfl 35 rfl rfl ?_
      refine g_iastore (N := 200) dX10_write_35 36 rfl rfl (by decide) (vp_in_nI (by have q : ¬ nI ty = 200 := c2; have q2 : ty ≠ 200 := fun z => q (by rw [z]; rfl); omega) (by decide)) (h' := (hM (gup text (nI ty) letter) (nI ty) told draft s past known images kept notes noted at_ alone parts held)) rfl ?_
      refine g_aload_n dX10_write_36 rfl 37 rfl rfl ?_
      refine g_dup dX10_write_37 38 rfl rfl ?_
      refine g_get (v := .int (nI ty)) dX10_write_38 41 rfl lX10_54 rfl rfl ?_
      refine g_iconst 1 dX10_write_41 42 rfl (by decide) ?_
      refine g_iadd' dX10_write_42 43 rfl (nI (ty + 1)) (nI_add _ 1) ?_
      refine g_put dX10_write_43 46 rfl lX10_54 wrX10 rfl rfl rfl rfl rfl (Nat.le_of_ble_eq_true rfl) (h' := (hM (gup text (nI ty) letter) (nI (ty + 1)) told draft s past known images kept notes noted at_ alone parts held)) rfl ?_
      refine g_aload_n dX10_write_46 rfl 47 rfl rfl ?_
      refine g_get (v := .int (nI (ty + 1))) dX10_write_47 50 rfl lX10_54 rfl rfl ?_
      refine g_ireturn dX10_write_50 rfl rfl (Nat.le_refl _) (Nat.le_refl _) ?_
      have e : (rX10_write text letter ty) = ((nI (ty + 1)), (gup text (nI ty) letter), (nI (ty + 1))) := by rw [rX10_write, if_pos c1, if_neg c2]
      rw [e]
      exact ⟨rfl, rfl⟩
    · refine g_bipush (-3) dX10_write_23 25 rfl (by decide) ?_
      refine g_ireturn dX10_write_25 rfl rfl (Nat.le_refl _) (Nat.le_refl _) ?_
      have e : (rX10_write text letter ty) = ((-3), text, (nI ty)) := by rw [rX10_write, if_pos c1, if_pos c2]
      rw [e]
      exact ⟨rfl, rfl⟩
  · replace c1 := gB_f c1
    refine g_iconst (-1) dX10_write_11 12 rfl (by decide) ?_
    refine g_ireturn dX10_write_12 rfl rfl (Nat.le_refl _) (Nat.le_refl _) ?_
    have e : (rX10_write text letter ty) = ((-1), text, (nI ty)) := by rw [rX10_write, if_neg c1]
    rw [e]
    exact ⟨rfl, rfl⟩
def rX10_wipe (typed : Int32) : Int32 × Int32 := (typed, 0)
set_option maxRecDepth 100000 in
set_option maxHeartbeats 4000000 in
theorem MX10_wipe {w : gW} {al : Bool} {typed known kept noted at_ : Int32} {text told draft s past images notes alone parts held : Int32 → Int32}   : M w gT0 al mX10_wipe 0 0 (hM text typed told draft s past known images kept notes noted at_ alone parts held) [.ref 0] (gEq (hM text ((rX10_wipe typed).2) told draft s past known images kept notes noted at_ alone parts held) (some (.int ((rX10_wipe typed).1)))) := by
  refine M.of (L0 := [.ref 0, gF]) (by decide +kernel) (Nat.le_of_ble_eq_true rfl) rfl ?_
  refine g_aload_n dX10_wipe_0 rfl 1 rfl rfl ?_
  refine g_get (v := .int typed) dX10_wipe_1 4 rfl lX10_54 rfl rfl ?_
  refine g_istore1 dX10_wipe_4 5 rfl (by decide) rfl ?_
  refine g_aload_n dX10_wipe_5 rfl 6 rfl rfl ?_
  refine g_iconst 0 dX10_wipe_6 7 rfl (by decide) ?_
  refine g_put dX10_wipe_7 10 rfl lX10_54 wrX10 rfl rfl rfl rfl rfl (Nat.le_of_ble_eq_true rfl) (h' := (hM text 0 told draft s past known images kept notes noted at_ alone parts held)) rfl ?_
  refine g_iload_n dX10_wipe_10 rfl 11 rfl rfl ?_
  refine g_ireturn dX10_wipe_11 rfl rfl (Nat.le_refl _) (Nat.le_refl _) ?_
  have e : (rX10_wipe typed) = (typed, 0) := by rw [rX10_wipe]
  rw [e]
  exact ⟨rfl, rfl⟩
