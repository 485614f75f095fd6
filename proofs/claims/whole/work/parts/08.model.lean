/-! the reference: its heap, and its methods without a loop -/
def hM (text : Int32 → Int32) (typed : Int32) (told draft s past : Int32 → Int32) (known : Int32) (images : Int32 → Int32) (kept : Int32) (notes : Int32 → Int32) (noted at_ : Int32) (alone parts held : Int32 → Int32) : gH :=
  [.inr (.inr (10, [.ref 1, .int typed, .ref 2, .ref 3, .ref 4, .ref 5, .int known, .ref 6, .int kept, .ref 7, .int noted, .int at_, .ref 8, .ref 9, .ref 10])), .inl (200, text), .inl (40, told), .inl (40, draft), .inl (21, s), .inl (168, past), .inl (42, images), .inl (5, notes), .inl (512, alone), .inl (512, parts), .inl (21, held)]
def gB (b : Bool) : Int32 := if b = true then 1 else 0
theorem gB_f {b : Bool} (h : gB b = 0) : ¬ b = true := by cases b <;> simp_all [gB]
theorem gB_t {b : Bool} (h : ¬ gB b = 0) : b = true := by cases b <;> simp_all [gB]
theorem gB_0 {b : Bool} (h : ¬ b = true) : gB b = 0 := by cases b <;> simp_all [gB]
theorem gB_1 {b : Bool} (h : b = true) : ¬ gB b = 0 := by cases b <;> simp_all [gB]
def gLp {α : Type} (f : Nat → α → α) : Nat → Nat → α → α
  | 0, _, a => a
  | d + 1, i, a => gLp f d (i + 1) (f i a)
/-- a loop with a stop of its own: the body says whether it stops -/
def gWh {α : Type} (f : Nat → α → Bool × α) : Nat → Nat → α → α
  | 0, _, a => a
  | d + 1, i, a => if (f i a).1 = true then (f i a).2 else gWh f d (i + 1) (f i a).2
def gWhT {α : Type} (f : Nat → α → Bool × α) : Nat → Nat → α → Prop
  | 0, _, _ => False
  | d + 1, i, a => (f i a).1 = true ∨ gWhT f d (i + 1) (f i a).2
theorem gWh_t {α : Type} {f : Nat → α → Bool × α} {d i : Nat} {a b : α} (e : f i a = (true, b)) : gWh f (d + 1) i a = b := by rw [gWh, e]; rfl
theorem gWh_f {α : Type} {f : Nat → α → Bool × α} {d i : Nat} {a b : α} (e : f i a = (false, b)) : gWh f (d + 1) i a = gWh f d (i + 1) b := by rw [gWh, e]; rfl
theorem gWhT_f {α : Type} {f : Nat → α → Bool × α} {d i : Nat} {a b : α} (e : f i a = (false, b)) (h : gWhT f (d + 1) i a) : gWhT f d (i + 1) b := by rw [gWhT, e] at h; exact h.resolve_left (by simp)
theorem gB_nar (b : Bool) : narrow .boolean (.int (gB b)) = .int (gB b) := by cases b <;> rfl
def rX10_in (v : Int32) (low : Int32) (high : Int32) : Bool := (if v < low then false else (if high < v then false else true))
set_option maxRecDepth 100000 in
set_option maxHeartbeats 4000000 in
theorem MX10_in {w : gW} {al : Bool} {h : gH}  (v : Int32) (low : Int32) (high : Int32)  : M w gT0 al mX10_in 0 0 h [.int v, .int low, .int high] (gEq h (some (.int (gB (rX10_in v low high))))) := by
  refine M.of (L0 := [.int v, .int low, .int high]) (by decide +kernel) (Nat.le_of_ble_eq_true rfl) rfl ?_
  refine g_iload_n dX10_in_0 rfl 1 rfl rfl ?_
  refine g_iload_n dX10_in_1 rfl 2 rfl rfl ?_
  refine g_icmp_lt dX10_in_2 14 rfl 5 rfl (fun c1 => ?_) (fun c1 => ?_)
  · refine g_iconst 0 dX10_in_14 15 rfl (by decide) ?_
    refine g_ireturn dX10_in_15 rfl rfl (Nat.le_refl _) (Nat.le_refl _) ?_
    have e : (rX10_in v low high) = false := by rw [rX10_in, if_pos c1]
    rw [e]
    exact ⟨rfl, rfl⟩
  · refine g_iload_n dX10_in_5 rfl 6 rfl rfl ?_
    refine g_iload_n dX10_in_6 rfl 7 rfl rfl ?_
    refine g_icmp_gt dX10_in_7 14 rfl 10 rfl (fun c2 => ?_) (fun c2 => ?_)
    · refine g_iconst 0 dX10_in_14 15 rfl (by decide) ?_
      refine g_ireturn dX10_in_15 rfl rfl (Nat.le_refl _) (Nat.le_refl _) ?_
      have e : (rX10_in v low high) = false := by rw [rX10_in, if_neg c1, if_pos c2]
      rw [e]
      exact ⟨rfl, rfl⟩
    · refine g_iconst 1 dX10_in_10 11 rfl (by decide) ?_
      refine g_goto dX10_in_11 15 rfl ?_
      refine g_ireturn dX10_in_15 rfl rfl (Nat.le_refl _) (Nat.le_refl _) ?_
      have e : (rX10_in v low high) = true := by rw [rX10_in, if_neg c1, if_neg c2]
      rw [e]
      exact ⟨rfl, rfl⟩
def rX10_isPerson (told : Int32 → Int32) (p : Int32) : Bool := (rX10_in p 0 ((told 0) - 1))
set_option maxRecDepth 100000 in
set_option maxHeartbeats 4000000 in
theorem MX10_isPerson {w : gW} {al : Bool} {typed known kept noted at_ : Int32} {text told draft s past images notes alone parts held : Int32 → Int32}  (p : Int32)  : M w gT0 al mX10_isPerson 0 0 (hM text typed told draft s past known images kept notes noted at_ alone parts held) [.ref 0, .int p] (gEq (hM text typed told draft s past known images kept notes noted at_ alone parts held) (some (.int (gB (rX10_isPerson told p))))) := by
  refine M.of (L0 := [.ref 0, .int p]) (by decide +kernel) (Nat.le_of_ble_eq_true rfl) rfl ?_
  refine g_iload_n dX10_isPerson_0 rfl 1 rfl rfl ?_
  refine g_iconst 0 dX10_isPerson_1 2 rfl (by decide) ?_
  refine g_aload_n dX10_isPerson_2 rfl 3 rfl rfl ?_
  refine g_get (v := .ref 2) dX10_isPerson_3 6 rfl lX10_13 rfl rfl ?_
  refine g_iconst 0 dX10_isPerson_6 7 rfl (by decide) ?_
  refine g_iaload (N := 40) dX10_isPerson_7 8 rfl rfl (vp_in_iff.mpr (by decide)) ?_
  refine g_iconst 1 dX10_isPerson_8 9 rfl (by decide) ?_
  refine g_isub dX10_isPerson_9 10 rfl ?_
  refine g_cSv (as := [.int p, .int 0, .int ((told 0) - 1)]) (st := []) dX10_isPerson_10 13 rfl kX10_50 ⟨Nat.le_of_ble_eq_true rfl, Nat.le_of_ble_eq_true rfl⟩ (MX10_in p 0 ((told 0) - 1)) rfl (Nat.le_of_ble_eq_true rfl) (Nat.le_refl _) (Nat.le_refl _) ?_
  refine g_ireturn dX10_isPerson_13 rfl (gB_nar _) (Nat.le_refl _) (Nat.le_refl _) ?_
  have e : (rX10_isPerson told p) = (rX10_in p 0 ((told 0) - 1)) := by rw [rX10_isPerson]
  rw [e]
  exact ⟨rfl, rfl⟩
def rX10_isFigure (v : Int32) : Bool := (rX10_in v 48 57)
set_option maxRecDepth 100000 in
set_option maxHeartbeats 4000000 in
theorem MX10_isFigure {w : gW} {al : Bool} {h : gH}  (v : Int32)  : M w gT0 al mX10_isFigure 0 0 h [.int v] (gEq h (some (.int (gB (rX10_isFigure v))))) := by
  refine M.of (L0 := [.int v]) (by decide +kernel) (Nat.le_of_ble_eq_true rfl) rfl ?_
  refine g_iload_n dX10_isFigure_0 rfl 1 rfl rfl ?_
  refine g_bipush 48 dX10_isFigure_1 3 rfl (by decide) ?_
  refine g_bipush 57 dX10_isFigure_3 5 rfl (by decide) ?_
  refine g_cSv (as := [.int v, .int 48, .int 57]) (st := []) dX10_isFigure_5 8 rfl kX10_50 ⟨Nat.le_of_ble_eq_true rfl, Nat.le_of_ble_eq_true rfl⟩ (MX10_in v 48 57) rfl (Nat.le_of_ble_eq_true rfl) (Nat.le_refl _) (Nat.le_refl _) ?_
  refine g_ireturn dX10_isFigure_8 rfl (gB_nar _) (Nat.le_refl _) (Nat.le_refl _) ?_
  have e : (rX10_isFigure v) = (rX10_in v 48 57) := by rw [rX10_isFigure]
  rw [e]
  exact ⟨rfl, rfl⟩
def rX10_where (told : Int32 → Int32) (s : Int32 → Int32) (p : Nat) : Int32 := (if (s (nI p)) ≤ 0 then (if (s 18) < (told (nI (22 + p))) then 0 else 1) else (s (nI p)))
set_option maxRecDepth 100000 in
set_option maxHeartbeats 4000000 in
theorem MX10_where {w : gW} {al : Bool} {typed known kept noted at_ : Int32} {text told draft s past images notes alone parts held : Int32 → Int32}  (p : Nat) (hp : p < 9) : M w gT0 al mX10_where 0 0 (hM text typed told draft s past known images kept notes noted at_ alone parts held) [.ref 0, .int (nI p)] (gEq (hM text typed told draft s past known images kept notes noted at_ alone parts held) (some (.int (rX10_where told s p)))) := by
  refine M.of (L0 := [.ref 0, .int (nI p)]) (by decide +kernel) (Nat.le_of_ble_eq_true rfl) rfl ?_
  refine g_aload_n dX10_where_0 rfl 1 rfl rfl ?_
  refine g_get (v := .ref 4) dX10_where_1 4 rfl lX10_19 rfl rfl ?_
  refine g_iload_n dX10_where_4 rfl 5 rfl rfl ?_
  refine g_iaload (N := 21) dX10_where_5 6 rfl rfl (vp_in_nI (by omega) (by decide)) ?_
  refine g_if_le dX10_where_6 18 rfl 9 rfl (fun c1 => ?_) (fun c1 => ?_)
  · refine g_aload_n dX10_where_18 rfl 19 rfl rfl ?_
    refine g_get (v := .ref 4) dX10_where_19 22 rfl lX10_19 rfl rfl ?_
    refine g_bipush 18 dX10_where_22 24 rfl (by decide) ?_
    refine g_iaload (N := 21) dX10_where_24 25 rfl rfl (vp_in_iff.mpr (by decide)) ?_
    refine g_aload_n dX10_where_25 rfl 26 rfl rfl ?_
    refine g_get (v := .ref 2) dX10_where_26 29 rfl lX10_13 rfl rfl ?_
    refine g_bipush 22 dX10_where_29 31 rfl (by decide) ?_
    refine g_iload_n dX10_where_31 rfl 32 rfl rfl ?_
    refine g_iadd' dX10_where_32 33 rfl (nI (22 + p)) (nI_add 22 _) ?_
    refine g_iaload (N := 40) dX10_where_33 34 rfl rfl (vp_in_nI (by omega) (by decide)) ?_
    refine g_icmp_lt dX10_where_34 41 rfl 37 rfl (fun c2 => ?_) (fun c2 => ?_)
    · refine g_iconst 0 dX10_where_41 42 rfl (by decide) ?_
      refine g_ireturn dX10_where_42 rfl rfl (Nat.le_refl _) (Nat.le_refl _) ?_
      have e : (rX10_where told s p) = 0 := by rw [rX10_where, if_pos c1, if_pos c2]
      rw [e]
      exact ⟨rfl, rfl⟩
    · refine g_iconst 1 dX10_where_37 38 rfl (by decide) ?_
      refine g_goto dX10_where_38 42 rfl ?_
      refine g_ireturn dX10_where_42 rfl rfl (Nat.le_refl _) (Nat.le_refl _) ?_
      have e : (rX10_where told s p) = 1 := by rw [rX10_where, if_pos c1, if_neg c2]
      rw [e]
      exact ⟨rfl, rfl⟩
  · refine g_aload_n dX10_where_9 rfl 10 rfl rfl ?_
    refine g_get (v := .ref 4) dX10_where_10 13 rfl lX10_19 rfl rfl ?_
    refine g_iload_n dX10_where_13 rfl 14 rfl rfl ?_
    refine g_iaload (N := 21) dX10_where_14 15 rfl rfl (vp_in_nI (by omega) (by decide)) ?_
    refine g_goto dX10_where_15 42 rfl ?_
    refine g_ireturn dX10_where_42 rfl rfl (Nat.le_refl _) (Nat.le_refl _) ?_
    have e : (rX10_where told s p) = (s (nI p)) := by rw [rX10_where, if_neg c1]
    rw [e]
    exact ⟨rfl, rfl⟩
def rX10_write (text : Int32 → Int32) (letter : Int32) (ty : Nat) : Int32 × (Int32 → Int32) × Nat := (if (rX10_in letter 32 126) = true then (if (nI ty) = 200 then ((-3), text, ty) else ((nI (ty + 1)), (gup text (nI ty) letter), ty + 1)) else ((-1), text, ty))
set_option maxRecDepth 100000 in
set_option maxHeartbeats 4000000 in
theorem MX10_write {w : gW} {al : Bool} {known kept noted at_ : Int32} {text told draft s past images notes alone parts held : Int32 → Int32} {ty : Nat} (letter : Int32) (ht : ty ≤ 200) : M w gT0 al mX10_write 0 0 (hM text (nI ty) told draft s past known images kept notes noted at_ alone parts held) [.ref 0, .int letter] (gEq (hM ((rX10_write text letter ty).2.1) (nI ((rX10_write text letter ty).2.2)) told draft s past known images kept notes noted at_ alone parts held) (some (.int ((rX10_write text letter ty).1)))) := by
  refine M.of (L0 := [.ref 0, .int letter]) (by decide +kernel) (Nat.le_of_ble_eq_true rfl) rfl ?_
  refine g_iload_n dX10_write_0 rfl 1 rfl rfl ?_
  refine g_bipush 32 dX10_write_1 3 rfl (by decide) ?_
  refine g_bipush 126 dX10_write_3 5 rfl (by decide) ?_
  refine g_cSv (as := [.int letter, .int 32, .int 126]) (st := []) dX10_write_5 8 rfl kX10_50 ⟨Nat.le_of_ble_eq_true rfl, Nat.le_of_ble_eq_true rfl⟩ (MX10_in letter 32 126) rfl (Nat.le_of_ble_eq_true rfl) (Nat.le_refl _) (Nat.le_refl _) ?_
  refine g_if_ne dX10_write_8 13 rfl 11 rfl (fun c1 => ?_) (fun c1 => ?_)
  · replace c1 := gB_t c1
    refine g_aload_n dX10_write_13 rfl 14 rfl rfl ?_
    refine g_get (v := .int (nI ty)) dX10_write_14 17 rfl lX10_54 rfl rfl ?_
    refine g_sipush 200 dX10_write_17 20 rfl (by decide) ?_
    refine g_icmp_ne dX10_write_20 26 rfl 23 rfl (fun c2 => ?_) (fun c2 => ?_)
    · refine g_aload_n dX10_write_26 rfl 27 rfl rfl ?_
      refine g_get (v := .ref 1) dX10_write_27 30 rfl lX10_7 rfl rfl ?_
      refine g_aload_n dX10_write_30 rfl 31 rfl rfl ?_
      refine g_get (v := .int (nI ty)) dX10_write_31 34 rfl lX10_54 rfl rfl ?_
      refine g_iload_n dX10_write_34 rfl 35 rfl rfl ?_
      refine g_iastore (N := 200) dX10_write_35 36 rfl rfl (by decide) (vp_in_nI (by have q : ¬ nI ty = 200 := c2; have q2 : ty ≠ 200 := fun z => q (by rw [z]; rfl); omega) (by decide)) (h' := (hM (gup text (nI ty) letter) (nI ty) told draft s past known images kept notes noted at_ alone parts held)) rfl ?_
      refine g_aload_n dX10_write_36 rfl 37 rfl rfl ?_
      refine g_dup dX10_write_37 38 rfl rfl ?_
      refine g_get (v := .int (nI ty)) dX10_write_38 41 rfl lX10_54 rfl rfl ?_
      refine g_iconst 1 dX10_write_41 42 rfl (by decide) ?_
      refine g_iadd' dX10_write_42 43 rfl (nI (ty + 1)) (nI_add _ 1) ?_
      refine g_put dX10_write_43 46 rfl lX10_54 wrX10 rfl rfl rfl rfl rfl (Nat.le_of_ble_eq_true rfl) (h' := (hM (gup text (nI ty) letter) (nI (ty + 1)) told draft s past known images kept notes noted at_ alone parts held)) rfl ?_
      refine g_aload_n dX10_write_46 rfl 47 rfl rfl ?_
      refine g_get (v := .int (nI (ty + 1))) dX10_write_47 50 rfl lX10_54 rfl rfl ?_
      refine g_ireturn dX10_write_50 rfl rfl (Nat.le_refl _) (Nat.le_refl _) ?_
      have e : (rX10_write text letter ty) = ((nI (ty + 1)), (gup text (nI ty) letter), ty + 1) := by rw [rX10_write, if_pos c1, if_neg c2]
      rw [e]
      exact ⟨rfl, rfl⟩
    · refine g_bipush (-3) dX10_write_23 25 rfl (by decide) ?_
      refine g_ireturn dX10_write_25 rfl rfl (Nat.le_refl _) (Nat.le_refl _) ?_
      have e : (rX10_write text letter ty) = ((-3), text, ty) := by rw [rX10_write, if_pos c1, if_pos c2]
      rw [e]
      exact ⟨rfl, rfl⟩
  · replace c1 := gB_f c1
    refine g_iconst (-1) dX10_write_11 12 rfl (by decide) ?_
    refine g_ireturn dX10_write_12 rfl rfl (Nat.le_refl _) (Nat.le_refl _) ?_
    have e : (rX10_write text letter ty) = ((-1), text, ty) := by rw [rX10_write, if_neg c1]
    rw [e]
    exact ⟨rfl, rfl⟩
def rX10_wipe (typed : Int32) : Int32 × Int32 := (typed, 0)
set_option maxRecDepth 100000 in
set_option maxHeartbeats 4000000 in
theorem MX10_wipe {w : gW} {al : Bool} {typed known kept noted at_ : Int32} {text told draft s past images notes alone parts held : Int32 → Int32}   : M w gT0 al mX10_wipe 0 0 (hM text typed told draft s past known images kept notes noted at_ alone parts held) [.ref 0] (gEq (hM text ((rX10_wipe typed).2) told draft s past known images kept notes noted at_ alone parts held) (some (.int ((rX10_wipe typed).1)))) := by
  refine M.of (L0 := [.ref 0, gF]) (by decide +kernel) (Nat.le_of_ble_eq_true rfl) rfl ?_
  refine g_aload_n dX10_wipe_0 rfl 1 rfl rfl ?_
  refine g_get (v := .int typed) dX10_wipe_1 4 rfl lX10_54 rfl rfl ?_
  refine g_istore1 dX10_wipe_4 5 rfl (by decide) rfl ?_
  refine g_aload_n dX10_wipe_5 rfl 6 rfl rfl ?_
  refine g_iconst 0 dX10_wipe_6 7 rfl (by decide) ?_
  refine g_put dX10_wipe_7 10 rfl lX10_54 wrX10 rfl rfl rfl rfl rfl (Nat.le_of_ble_eq_true rfl) (h' := (hM text 0 told draft s past known images kept notes noted at_ alone parts held)) rfl ?_
  refine g_iload_n dX10_wipe_10 rfl 11 rfl rfl ?_
  refine g_ireturn dX10_wipe_11 rfl rfl (Nat.le_refl _) (Nat.le_refl _) ?_
  have e : (rX10_wipe typed) = (typed, 0) := by rw [rX10_wipe]
  rw [e]
  exact ⟨rfl, rfl⟩
def fX10_ones_4 (bits : Int32) : Nat → (Int32) → (Int32)
  | i, u0 => (u0 + ((bits >>> ((nI i) &&& 31)) &&& 1))
set_option maxRecDepth 100000 in
set_option maxHeartbeats 4000000 in
theorem LX10_ones_4 {w : gW} {al : Bool} {h : gH} {n : Nat} {P : gP}  {bits : Int32}  : ∀ (d i : Nat) (u0 : Int32), i + d = 9 → G w gT0 al n mX10_ones 0 0 P 0 0 h 24 [.int bits, .int (gLp (fX10_ones_4 bits) d i u0), .int (nI 9)] [] → G w gT0 al n mX10_ones 0 0 P 0 0 h 4 [.int bits, .int u0, .int (nI i)] []
  | 0, i, u0, hi, k => by
    have hN : i = 9 := by omega
    rw [hN]
    rw [hN] at k
    refine g_iload_n dX10_ones_4 rfl 5 rfl rfl ?_
    refine g_bipush 9 dX10_ones_5 7 rfl (by decide) ?_
    refine g_icmp_ge dX10_ones_7 24 rfl 10 rfl (fun _ => ?_) (fun c => absurd (nI_le (a := 9) (b := 9) (by omega) (by omega)) c)
    exact k
  | d + 1, i, u0, hi, k => by
    refine g_iload_n dX10_ones_4 rfl 5 rfl rfl ?_
    refine g_bipush 9 dX10_ones_5 7 rfl (by decide) ?_
    refine g_icmp_ge dX10_ones_7 24 rfl 10 rfl (fun c => absurd c (nI_ge (a := i) (b := 9) (by omega) (by omega))) (fun _ => ?_)
    refine g_iload_n dX10_ones_10 rfl 11 rfl rfl ?_
    refine g_iload_n dX10_ones_11 rfl 12 rfl rfl ?_
    refine g_iload_n dX10_ones_12 rfl 13 rfl rfl ?_
    refine g_ishr dX10_ones_13 14 rfl ?_
    refine g_iconst 1 dX10_ones_14 15 rfl (by decide) ?_
    refine g_iand dX10_ones_15 16 rfl ?_
    refine g_iadd dX10_ones_16 17 rfl ?_
    refine g_istore1 dX10_ones_17 18 rfl (by decide) rfl ?_
    refine g_iinc2 dX10_ones_18 21 rfl 1 (by decide) (nI (i + 1)) (nI_add _ 1) (by decide) rfl ?_
    refine g_goto dX10_ones_21 4 rfl ?_
    have e : (fX10_ones_4 bits) i u0 = (u0 + ((bits >>> ((nI i) &&& 31)) &&& 1)) := by rw [fX10_ones_4]
    refine LX10_ones_4  d (i + 1) (u0 + ((bits >>> ((nI i) &&& 31)) &&& 1)) (by omega) ?_
    rw [← e]
    exact k
def rX10_ones (bits : Int32) : Int32 := (gLp (fX10_ones_4 bits) 9 0 0)
set_option maxRecDepth 100000 in
set_option maxHeartbeats 4000000 in
theorem MX10_ones {w : gW} {al : Bool} {h : gH}  (bits : Int32)  : M w gT0 al mX10_ones 0 0 h [.int bits] (gEq h (some (.int (rX10_ones bits)))) := by
  refine M.of (L0 := [.int bits, gF, gF]) (by decide +kernel) (Nat.le_of_ble_eq_true rfl) rfl ?_
  refine g_iconst 0 dX10_ones_0 1 rfl (by decide) ?_
  refine g_istore1 dX10_ones_1 2 rfl (by decide) rfl ?_
  refine g_iconst 0 dX10_ones_2 3 rfl (by decide) ?_
  refine g_istore2 dX10_ones_3 4 rfl (by decide) rfl ?_
  refine LX10_ones_4  9 0 0 (by omega) ?_
  refine g_iload_n dX10_ones_24 rfl 25 rfl rfl ?_
  refine g_ireturn dX10_ones_25 rfl rfl (Nat.le_refl _) (Nat.le_refl _) ?_
  have e : (rX10_ones bits) = (gLp (fX10_ones_4 bits) 9 0 0) := by rw [rX10_ones]
  rw [e]
  exact ⟨rfl, rfl⟩
def fX10_begins_2  : Nat → (Int32 → Int32) → (Int32 → Int32)
  | i, draft => (gup draft (nI i) 0)
set_option maxRecDepth 100000 in
set_option maxHeartbeats 4000000 in
theorem LX10_begins_2 {w : gW} {al : Bool} {typed known kept noted at_ : Int32} {text told s past images notes alone parts held : Int32 → Int32} {n : Nat} {P : gP}   : ∀ (d i : Nat) (draft : Int32 → Int32), i + d = 40 → G w gT0 al n mX10_begins 0 0 P 0 0 (hM text typed told (gLp fX10_begins_2 d i draft) s past known images kept notes noted at_ alone parts held) 21 [.ref 0, .int (nI 40)] [] → G w gT0 al n mX10_begins 0 0 P 0 0 (hM text typed told draft s past known images kept notes noted at_ alone parts held) 2 [.ref 0, .int (nI i)] []
  | 0, i, draft, hi, k => by
    have hN : i = 40 := by omega
    rw [hN]
    rw [hN] at k
    refine g_iload_n dX10_begins_2 rfl 3 rfl rfl ?_
    refine g_bipush 40 dX10_begins_3 5 rfl (by decide) ?_
    refine g_icmp_ge dX10_begins_5 21 rfl 8 rfl (fun _ => ?_) (fun c => absurd (nI_le (a := 40) (b := 40) (by omega) (by omega)) c)
    exact k
  | d + 1, i, draft, hi, k => by
    refine g_iload_n dX10_begins_2 rfl 3 rfl rfl ?_
    refine g_bipush 40 dX10_begins_3 5 rfl (by decide) ?_
    refine g_icmp_ge dX10_begins_5 21 rfl 8 rfl (fun c => absurd c (nI_ge (a := i) (b := 40) (by omega) (by omega))) (fun _ => ?_)
    refine g_aload_n dX10_begins_8 rfl 9 rfl rfl ?_
    refine g_get (v := .ref 3) dX10_begins_9 12 rfl lX10_16 rfl rfl ?_
    refine g_iload_n dX10_begins_12 rfl 13 rfl rfl ?_
    refine g_iconst 0 dX10_begins_13 14 rfl (by decide) ?_
    refine g_iastore (N := 40) dX10_begins_14 15 rfl rfl (by decide) (vp_in_nI (by omega) (by decide)) (h' := (hM text typed told (gup draft (nI i) 0) s past known images kept notes noted at_ alone parts held)) rfl ?_
    refine g_iinc1 dX10_begins_15 18 rfl 1 (by decide) (nI (i + 1)) (nI_add _ 1) (by decide) rfl ?_
    refine g_goto dX10_begins_18 2 rfl ?_
    have e : fX10_begins_2 i draft = (gup draft (nI i) 0) := by rw [fX10_begins_2]
    refine LX10_begins_2  d (i + 1) (gup draft (nI i) 0) (by omega) ?_
    rw [← e]
    exact k
def rX10_begins (draft : Int32 → Int32) : (Int32 → Int32) := (gup (gup (gup (gLp fX10_begins_2 40 0 draft) 1 100) 2 9) 3 1)
set_option maxRecDepth 100000 in
set_option maxHeartbeats 4000000 in
theorem MX10_begins {w : gW} {al : Bool} {typed known kept noted at_ : Int32} {text told draft s past images notes alone parts held : Int32 → Int32}   : M w gT0 al mX10_begins 0 0 (hM text typed told draft s past known images kept notes noted at_ alone parts held) [.ref 0] (gEq (hM text typed told (rX10_begins draft) s past known images kept notes noted at_ alone parts held) none) := by
  refine M.of (L0 := [.ref 0, gF]) (by decide +kernel) (Nat.le_of_ble_eq_true rfl) rfl ?_
  refine g_iconst 0 dX10_begins_0 1 rfl (by decide) ?_
  refine g_istore1 dX10_begins_1 2 rfl (by decide) rfl ?_
  refine LX10_begins_2  40 0 draft (by omega) ?_
  refine g_aload_n dX10_begins_21 rfl 22 rfl rfl ?_
  refine g_get (v := .ref 3) dX10_begins_22 25 rfl lX10_16 rfl rfl ?_
  refine g_iconst 1 dX10_begins_25 26 rfl (by decide) ?_
  refine g_bipush 100 dX10_begins_26 28 rfl (by decide) ?_
  refine g_iastore (N := 40) dX10_begins_28 29 rfl rfl (by decide) (vp_in_iff.mpr (by decide)) (h' := (hM text typed told (gup (gLp fX10_begins_2 40 0 draft) 1 100) s past known images kept notes noted at_ alone parts held)) rfl ?_
  refine g_aload_n dX10_begins_29 rfl 30 rfl rfl ?_
  refine g_get (v := .ref 3) dX10_begins_30 33 rfl lX10_16 rfl rfl ?_
  refine g_iconst 2 dX10_begins_33 34 rfl (by decide) ?_
  refine g_bipush 9 dX10_begins_34 36 rfl (by decide) ?_
  refine g_iastore (N := 40) dX10_begins_36 37 rfl rfl (by decide) (vp_in_iff.mpr (by decide)) (h' := (hM text typed told (gup (gup (gLp fX10_begins_2 40 0 draft) 1 100) 2 9) s past known images kept notes noted at_ alone parts held)) rfl ?_
  refine g_aload_n dX10_begins_37 rfl 38 rfl rfl ?_
  refine g_get (v := .ref 3) dX10_begins_38 41 rfl lX10_16 rfl rfl ?_
  refine g_iconst 3 dX10_begins_41 42 rfl (by decide) ?_
  refine g_iconst 1 dX10_begins_42 43 rfl (by decide) ?_
  refine g_iastore (N := 40) dX10_begins_43 44 rfl rfl (by decide) (vp_in_iff.mpr (by decide)) (h' := (hM text typed told (gup (gup (gup (gLp fX10_begins_2 40 0 draft) 1 100) 2 9) 3 1) s past known images kept notes noted at_ alone parts held)) rfl ?_
  refine g_return dX10_begins_44 rfl (Nat.le_refl _) (Nat.le_refl _) ?_
  have e : (rX10_begins draft) = (gup (gup (gup (gLp fX10_begins_2 40 0 draft) 1 100) 2 9) 3 1) := by rw [rX10_begins]
  rw [e]
  exact ⟨rfl, rfl⟩
def fX10_allAt_4 (told : Int32 → Int32) (s : Int32 → Int32) (pl : Int32) : Nat → (Int32) → (Int32)
  | i, u0 => (if (rX10_where told s i) = pl then (u0 ||| (1 <<< ((nI i) &&& 31))) else (u0 ||| 0))
set_option maxRecDepth 100000 in
set_option maxHeartbeats 4000000 in
theorem LX10_allAt_4 {w : gW} {al : Bool} {typed known kept noted at_ : Int32} {text told draft s past images notes alone parts held : Int32 → Int32} {n : Nat} {P : gP} {sz : Nat} {pl : Int32} (hsz : told 0 = nI sz) (hs : sz ≤ 9)  : ∀ (d i : Nat) (u0 : Int32), i + d = sz → G w gT0 al n mX10_allAt 0 0 P 0 0 (hM text typed told draft s past known images kept notes noted at_ alone parts held) 39 [.ref 0, .int pl, .int (gLp (fX10_allAt_4 told s pl) d i u0), .int (nI sz)] [] → G w gT0 al n mX10_allAt 0 0 P 0 0 (hM text typed told draft s past known images kept notes noted at_ alone parts held) 4 [.ref 0, .int pl, .int u0, .int (nI i)] []
  | 0, i, u0, hi, k => by
    have hN : i = sz := by omega
    rw [hN]
    rw [hN] at k
    refine g_iload_n dX10_allAt_4 rfl 5 rfl rfl ?_
    refine g_aload_n dX10_allAt_5 rfl 6 rfl rfl ?_
    refine g_get (v := .ref 2) dX10_allAt_6 9 rfl lX10_13 rfl rfl ?_
    refine g_iconst 0 dX10_allAt_9 10 rfl (by decide) ?_
    refine g_iaload (N := 40) dX10_allAt_10 11 rfl rfl (vp_in_iff.mpr (by decide)) ?_
    refine g_icmp_ge dX10_allAt_11 39 rfl 14 rfl (fun _ => ?_) (fun c => absurd (by rw [hsz]; exact nI_le (Nat.le_refl _) (by omega)) c)
    exact k
  | d + 1, i, u0, hi, k => by
    refine g_iload_n dX10_allAt_4 rfl 5 rfl rfl ?_
    refine g_aload_n dX10_allAt_5 rfl 6 rfl rfl ?_
    refine g_get (v := .ref 2) dX10_allAt_6 9 rfl lX10_13 rfl rfl ?_
    refine g_iconst 0 dX10_allAt_9 10 rfl (by decide) ?_
    refine g_iaload (N := 40) dX10_allAt_10 11 rfl rfl (vp_in_iff.mpr (by decide)) ?_
    refine g_icmp_ge dX10_allAt_11 39 rfl 14 rfl (fun c => absurd c (by rw [hsz]; exact nI_ge (by omega) (by omega))) (fun _ => ?_)
    refine g_iload_n dX10_allAt_14 rfl 15 rfl rfl ?_
    refine g_aload_n dX10_allAt_15 rfl 16 rfl rfl ?_
    refine g_iload_n dX10_allAt_16 rfl 17 rfl rfl ?_
    refine g_cVv (as := [.int (nI i)]) (st := [.int u0]) dX10_allAt_17 20 rfl kX10_89 ⟨Nat.le_of_ble_eq_true rfl, Nat.le_of_ble_eq_true rfl⟩ (MX10_where i (by omega)) rfl rfl rfl rfl (Nat.le_of_ble_eq_true rfl) (Nat.le_refl _) (Nat.le_refl _) ?_
    refine g_iload_n dX10_allAt_20 rfl 21 rfl rfl ?_
    refine g_icmp_ne dX10_allAt_21 30 rfl 24 rfl (fun c1 => ?_) (fun c1 => ?_)
    · refine g_iconst 0 dX10_allAt_30 31 rfl (by decide) ?_
      refine g_ior dX10_allAt_31 32 rfl ?_
      refine g_istore2 dX10_allAt_32 33 rfl (by decide) rfl ?_
      refine g_iinc3 dX10_allAt_33 36 rfl 1 (by decide) (nI (i + 1)) (nI_add _ 1) (by decide) rfl ?_
      refine g_goto dX10_allAt_36 4 rfl ?_
      have e : (fX10_allAt_4 told s pl) i u0 = (u0 ||| 0) := by rw [fX10_allAt_4, if_neg c1]
      refine LX10_allAt_4 hsz hs d (i + 1) (u0 ||| 0) (by omega) ?_
      rw [← e]
      exact k
    · refine g_iconst 1 dX10_allAt_24 25 rfl (by decide) ?_
      refine g_iload_n dX10_allAt_25 rfl 26 rfl rfl ?_
      refine g_ishl dX10_allAt_26 27 rfl ?_
      refine g_goto dX10_allAt_27 31 rfl ?_
      refine g_ior dX10_allAt_31 32 rfl ?_
      refine g_istore2 dX10_allAt_32 33 rfl (by decide) rfl ?_
      refine g_iinc3 dX10_allAt_33 36 rfl 1 (by decide) (nI (i + 1)) (nI_add _ 1) (by decide) rfl ?_
      refine g_goto dX10_allAt_36 4 rfl ?_
      have e : (fX10_allAt_4 told s pl) i u0 = (u0 ||| (1 <<< ((nI i) &&& 31))) := by rw [fX10_allAt_4, if_pos c1]
      refine LX10_allAt_4 hsz hs d (i + 1) (u0 ||| (1 <<< ((nI i) &&& 31))) (by omega) ?_
      rw [← e]
      exact k
def rX10_allAt (told : Int32 → Int32) (s : Int32 → Int32) (pl : Int32) (sz : Nat) : Int32 := (gLp (fX10_allAt_4 told s pl) sz 0 0)
set_option maxRecDepth 100000 in
set_option maxHeartbeats 4000000 in
theorem MX10_allAt {w : gW} {al : Bool} {typed known kept noted at_ : Int32} {text told draft s past images notes alone parts held : Int32 → Int32} {sz : Nat} (pl : Int32) (hsz : told 0 = nI sz) (hs : sz ≤ 9)  : M w gT0 al mX10_allAt 0 0 (hM text typed told draft s past known images kept notes noted at_ alone parts held) [.ref 0, .int pl] (gEq (hM text typed told draft s past known images kept notes noted at_ alone parts held) (some (.int (rX10_allAt told s pl sz)))) := by
  refine M.of (L0 := [.ref 0, .int pl, gF, gF]) (by decide +kernel) (Nat.le_of_ble_eq_true rfl) rfl ?_
  refine g_iconst 0 dX10_allAt_0 1 rfl (by decide) ?_
  refine g_istore2 dX10_allAt_1 2 rfl (by decide) rfl ?_
  refine g_iconst 0 dX10_allAt_2 3 rfl (by decide) ?_
  refine g_istore3 dX10_allAt_3 4 rfl (by decide) rfl ?_
  refine LX10_allAt_4 hsz hs sz 0 0 (by omega) ?_
  refine g_iload_n dX10_allAt_39 rfl 40 rfl rfl ?_
  refine g_ireturn dX10_allAt_40 rfl rfl (Nat.le_refl _) (Nat.le_refl _) ?_
  have e : (rX10_allAt told s pl sz) = (gLp (fX10_allAt_4 told s pl) sz 0 0) := by rw [rX10_allAt]
  rw [e]
  exact ⟨rfl, rfl⟩
def fX10_sumOf_10 (told : Int32 → Int32) (s : Int32 → Int32) (bits : Int32) : Nat → (Int32 × Int32 × Int32) → (Int32 × Int32 × Int32)
  | i, (u0, u1, u2) => (if ((bits >>> ((nI i) &&& 31)) &&& 1) = 1 then (if (told (nI (4 + i))) = 1 then ((u0 + 1), (u1 + 0), (u2 + 0)) else (if (told (nI (4 + i))) = 2 then (if 0 ≤ ((told (nI (13 + i))) - (10 * (s (nI (9 + i))))) then ((u0 + ((told (nI (13 + i))) - (10 * (s (nI (9 + i)))))), (u1 + 0), (u2 + 0)) else ((u0 + 0), (u1 + 0), (u2 + 0))) else (if (told (nI (4 + i))) = 3 then ((u0 + 0), (u1 + (told (nI (13 + i)))), (u2 + 1)) else ((u0 + (told (nI (13 + i)))), (u1 + 0), (u2 + 0))))) else (u0, u1, u2))
set_option maxRecDepth 100000 in
set_option maxHeartbeats 4000000 in
theorem LX10_sumOf_10 {w : gW} {al : Bool} {typed known kept noted at_ : Int32} {text told draft s past images notes alone parts held : Int32 → Int32} {n : Nat} {P : gP} {sz : Nat} {bits : Int32} (hsz : told 0 = nI sz) (hs : sz ≤ 9)  : ∀ (d i : Nat) (u0 : Int32) (u1 : Int32) (u2 : Int32), i + d = sz → G w gT0 al n mX10_sumOf 0 0 P 0 0 (hM text typed told draft s past known images kept notes noted at_ alone parts held) 154 [.ref 0, .int bits, .int ((gLp (fX10_sumOf_10 told s bits) d i (u0, u1, u2)).1), .int ((gLp (fX10_sumOf_10 told s bits) d i (u0, u1, u2)).2.1), .int ((gLp (fX10_sumOf_10 told s bits) d i (u0, u1, u2)).2.2), .int (nI sz), gF, gF, gF] [] → G w gT0 al n mX10_sumOf 0 0 P 0 0 (hM text typed told draft s past known images kept notes noted at_ alone parts held) 10 [.ref 0, .int bits, .int u0, .int u1, .int u2, .int (nI i), gF, gF, gF] []
  | 0, i, u0, u1, u2, hi, k => by
    have hN : i = sz := by omega
    rw [hN]
    rw [hN] at k
    refine g_iload dX10_sumOf_10 12 rfl rfl ?_
    refine g_aload_n dX10_sumOf_12 rfl 13 rfl rfl ?_
    refine g_get (v := .ref 2) dX10_sumOf_13 16 rfl lX10_13 rfl rfl ?_
    refine g_iconst 0 dX10_sumOf_16 17 rfl (by decide) ?_
    refine g_iaload (N := 40) dX10_sumOf_17 18 rfl rfl (vp_in_iff.mpr (by decide)) ?_
    refine g_icmp_ge dX10_sumOf_18 154 rfl 21 rfl (fun _ => ?_) (fun c => absurd (by rw [hsz]; exact nI_le (Nat.le_refl _) (by omega)) c)
    exact k
  | d + 1, i, u0, u1, u2, hi, k => by
    refine g_iload dX10_sumOf_10 12 rfl rfl ?_
    refine g_aload_n dX10_sumOf_12 rfl 13 rfl rfl ?_
    refine g_get (v := .ref 2) dX10_sumOf_13 16 rfl lX10_13 rfl rfl ?_
    refine g_iconst 0 dX10_sumOf_16 17 rfl (by decide) ?_
    refine g_iaload (N := 40) dX10_sumOf_17 18 rfl rfl (vp_in_iff.mpr (by decide)) ?_
    refine g_icmp_ge dX10_sumOf_18 154 rfl 21 rfl (fun c => absurd c (by rw [hsz]; exact nI_ge (by omega) (by omega))) (fun _ => ?_)
    refine g_iload_n dX10_sumOf_21 rfl 22 rfl rfl ?_
    refine g_iload dX10_sumOf_22 24 rfl rfl ?_
    refine g_ishr dX10_sumOf_24 25 rfl ?_
    refine g_iconst 1 dX10_sumOf_25 26 rfl (by decide) ?_
    refine g_iand dX10_sumOf_26 27 rfl ?_
    refine g_iconst 1 dX10_sumOf_27 28 rfl (by decide) ?_
    refine g_icmp_ne dX10_sumOf_28 148 rfl 31 rfl (fun c1 => ?_) (fun c1 => ?_)
    · refine g_iinc5 dX10_sumOf_148 151 rfl 1 (by decide) (nI (i + 1)) (nI_add _ 1) (by decide) rfl ?_
      refine g_goto dX10_sumOf_151 10 rfl ?_
      have e : (fX10_sumOf_10 told s bits) i (u0, u1, u2) = (u0, u1, u2) := by rw [fX10_sumOf_10, if_neg c1]
      refine LX10_sumOf_10 hsz hs d (i + 1) u0 u1 u2 (by omega) ?_
      rw [← e]
      exact k
    · refine g_aload_n dX10_sumOf_31 rfl 32 rfl rfl ?_
      refine g_get (v := .ref 2) dX10_sumOf_32 35 rfl lX10_13 rfl rfl ?_
      refine g_iconst 4 dX10_sumOf_35 36 rfl (by decide) ?_
      refine g_iload dX10_sumOf_36 38 rfl rfl ?_
      refine g_iadd' dX10_sumOf_38 39 rfl (nI (4 + i)) (nI_add 4 _) ?_
      refine g_iaload (N := 40) dX10_sumOf_39 40 rfl rfl (vp_in_nI (by omega) (by decide)) ?_
      refine g_istore6 dX10_sumOf_40 42 rfl (by decide) rfl ?_
      refine g_aload_n dX10_sumOf_42 rfl 43 rfl rfl ?_
      refine g_get (v := .ref 2) dX10_sumOf_43 46 rfl lX10_13 rfl rfl ?_
      refine g_bipush 13 dX10_sumOf_46 48 rfl (by decide) ?_
      refine g_iload dX10_sumOf_48 50 rfl rfl ?_
      refine g_iadd' dX10_sumOf_50 51 rfl (nI (13 + i)) (nI_add 13 _) ?_
      refine g_iaload (N := 40) dX10_sumOf_51 52 rfl rfl (vp_in_nI (by omega) (by decide)) ?_
      refine g_istore7 dX10_sumOf_52 54 rfl (by decide) rfl ?_
      refine g_iload dX10_sumOf_54 56 rfl rfl ?_
      refine g_bipush 10 dX10_sumOf_56 58 rfl (by decide) ?_
      refine g_aload_n dX10_sumOf_58 rfl 59 rfl rfl ?_
      refine g_get (v := .ref 4) dX10_sumOf_59 62 rfl lX10_19 rfl rfl ?_
      refine g_bipush 9 dX10_sumOf_62 64 rfl (by decide) ?_
      refine g_iload dX10_sumOf_64 66 rfl rfl ?_
      refine g_iadd' dX10_sumOf_66 67 rfl (nI (9 + i)) (nI_add 9 _) ?_
      refine g_iaload (N := 21) dX10_sumOf_67 68 rfl rfl (vp_in_nI (by omega) (by decide)) ?_
      refine g_imul dX10_sumOf_68 69 rfl ?_
      refine g_isub dX10_sumOf_69 70 rfl ?_
      refine g_istore8 dX10_sumOf_70 72 rfl (by decide) rfl ?_
      refine g_iload_n dX10_sumOf_72 rfl 73 rfl rfl ?_
      refine g_iload dX10_sumOf_73 75 rfl rfl ?_
      refine g_iconst 1 dX10_sumOf_75 76 rfl (by decide) ?_
      refine g_icmp_ne dX10_sumOf_76 83 rfl 79 rfl (fun c2 => ?_) (fun c2 => ?_)
      · refine g_iload dX10_sumOf_83 85 rfl rfl ?_
        refine g_iconst 2 dX10_sumOf_85 86 rfl (by decide) ?_
        refine g_icmp_ne dX10_sumOf_86 103 rfl 89 rfl (fun c3 => ?_) (fun c3 => ?_)
        · refine g_iload dX10_sumOf_103 105 rfl rfl ?_
          refine g_iconst 3 dX10_sumOf_105 106 rfl (by decide) ?_
          refine g_icmp_ne dX10_sumOf_106 113 rfl 109 rfl (fun c5 => ?_) (fun c5 => ?_)
          · refine g_iload dX10_sumOf_113 115 rfl rfl ?_
            refine g_iadd dX10_sumOf_115 116 rfl ?_
            refine g_istore2 dX10_sumOf_116 117 rfl (by decide) rfl ?_
            refine g_iload_n dX10_sumOf_117 rfl 118 rfl rfl ?_
            refine g_iload dX10_sumOf_118 120 rfl rfl ?_
            refine g_iconst 3 dX10_sumOf_120 121 rfl (by decide) ?_
            refine g_icmp_ne dX10_sumOf_121 129 rfl 124 rfl (fun _ => ?_) (fun c => absurd c c5)
            refine g_iconst 0 dX10_sumOf_129 130 rfl (by decide) ?_
            refine g_iadd dX10_sumOf_130 131 rfl ?_
            refine g_istore3 dX10_sumOf_131 132 rfl (by decide) rfl ?_
            refine g_iload dX10_sumOf_132 134 rfl rfl ?_
            refine g_iload dX10_sumOf_134 136 rfl rfl ?_
            refine g_iconst 3 dX10_sumOf_136 137 rfl (by decide) ?_
            refine g_icmp_ne dX10_sumOf_137 144 rfl 140 rfl (fun _ => ?_) (fun c => absurd c c5)
            refine g_iconst 0 dX10_sumOf_144 145 rfl (by decide) ?_
            refine g_iadd dX10_sumOf_145 146 rfl ?_
            refine g_istore4 dX10_sumOf_146 148 rfl (by decide) rfl ?_
            refine g_iinc5 dX10_sumOf_148 151 rfl 1 (by decide) (nI (i + 1)) (nI_add _ 1) (by decide) rfl ?_
            refine g_goto dX10_sumOf_151 10 rfl ?_
            refine g_fgt (L' := [.ref 0, .int bits, .int (u0 + (told (nI (13 + i)))), .int (u1 + 0), .int (u2 + 0), .int (nI (i + 1)), gF, gF, gF]) ⟨Or.inl rfl, Or.inl rfl, Or.inl rfl, Or.inl rfl, Or.inl rfl, Or.inl rfl, Or.inr rfl, Or.inr rfl, Or.inr rfl, trivial⟩ ?_
            have e : (fX10_sumOf_10 told s bits) i (u0, u1, u2) = ((u0 + (told (nI (13 + i)))), (u1 + 0), (u2 + 0)) := by rw [fX10_sumOf_10, if_pos c1, if_neg c2, if_neg c3, if_neg c5]
            refine LX10_sumOf_10 hsz hs d (i + 1) (u0 + (told (nI (13 + i)))) (u1 + 0) (u2 + 0) (by omega) ?_
            rw [← e]
            exact k
          · refine g_iconst 0 dX10_sumOf_109 110 rfl (by decide) ?_
            refine g_goto dX10_sumOf_110 115 rfl ?_
            refine g_iadd dX10_sumOf_115 116 rfl ?_
            refine g_istore2 dX10_sumOf_116 117 rfl (by decide) rfl ?_
            refine g_iload_n dX10_sumOf_117 rfl 118 rfl rfl ?_
            refine g_iload dX10_sumOf_118 120 rfl rfl ?_
            refine g_iconst 3 dX10_sumOf_120 121 rfl (by decide) ?_
            refine g_icmp_ne dX10_sumOf_121 129 rfl 124 rfl (fun c => absurd c5 c) (fun _ => ?_)
            refine g_iload dX10_sumOf_124 126 rfl rfl ?_
            refine g_goto dX10_sumOf_126 130 rfl ?_
            refine g_iadd dX10_sumOf_130 131 rfl ?_
            refine g_istore3 dX10_sumOf_131 132 rfl (by decide) rfl ?_
            refine g_iload dX10_sumOf_132 134 rfl rfl ?_
            refine g_iload dX10_sumOf_134 136 rfl rfl ?_
            refine g_iconst 3 dX10_sumOf_136 137 rfl (by decide) ?_
            refine g_icmp_ne dX10_sumOf_137 144 rfl 140 rfl (fun c => absurd c5 c) (fun _ => ?_)
            refine g_iconst 1 dX10_sumOf_140 141 rfl (by decide) ?_
            refine g_goto dX10_sumOf_141 145 rfl ?_
            refine g_iadd dX10_sumOf_145 146 rfl ?_
            refine g_istore4 dX10_sumOf_146 148 rfl (by decide) rfl ?_
            refine g_iinc5 dX10_sumOf_148 151 rfl 1 (by decide) (nI (i + 1)) (nI_add _ 1) (by decide) rfl ?_
            refine g_goto dX10_sumOf_151 10 rfl ?_
            refine g_fgt (L' := [.ref 0, .int bits, .int (u0 + 0), .int (u1 + (told (nI (13 + i)))), .int (u2 + 1), .int (nI (i + 1)), gF, gF, gF]) ⟨Or.inl rfl, Or.inl rfl, Or.inl rfl, Or.inl rfl, Or.inl rfl, Or.inl rfl, Or.inr rfl, Or.inr rfl, Or.inr rfl, trivial⟩ ?_
            have e : (fX10_sumOf_10 told s bits) i (u0, u1, u2) = ((u0 + 0), (u1 + (told (nI (13 + i)))), (u2 + 1)) := by rw [fX10_sumOf_10, if_pos c1, if_neg c2, if_neg c3, if_pos c5]
            refine LX10_sumOf_10 hsz hs d (i + 1) (u0 + 0) (u1 + (told (nI (13 + i)))) (u2 + 1) (by omega) ?_
            rw [← e]
            exact k
        · refine g_iload dX10_sumOf_89 91 rfl rfl ?_
          refine g_if_ge dX10_sumOf_91 98 rfl 94 rfl (fun c4 => ?_) (fun c4 => ?_)
          · refine g_iload dX10_sumOf_98 100 rfl rfl ?_
            refine g_goto dX10_sumOf_100 115 rfl ?_
            refine g_iadd dX10_sumOf_115 116 rfl ?_
            refine g_istore2 dX10_sumOf_116 117 rfl (by decide) rfl ?_
            refine g_iload_n dX10_sumOf_117 rfl 118 rfl rfl ?_
            refine g_iload dX10_sumOf_118 120 rfl rfl ?_
            refine g_iconst 3 dX10_sumOf_120 121 rfl (by decide) ?_
            refine g_icmp_ne dX10_sumOf_121 129 rfl 124 rfl (fun _ => ?_) (fun c => absurd c (fun z => absurd (c3.symm.trans z) (by decide)))
            refine g_iconst 0 dX10_sumOf_129 130 rfl (by decide) ?_
            refine g_iadd dX10_sumOf_130 131 rfl ?_
            refine g_istore3 dX10_sumOf_131 132 rfl (by decide) rfl ?_
            refine g_iload dX10_sumOf_132 134 rfl rfl ?_
            refine g_iload dX10_sumOf_134 136 rfl rfl ?_
            refine g_iconst 3 dX10_sumOf_136 137 rfl (by decide) ?_
            refine g_icmp_ne dX10_sumOf_137 144 rfl 140 rfl (fun _ => ?_) (fun c => absurd c (fun z => absurd (c3.symm.trans z) (by decide)))
            refine g_iconst 0 dX10_sumOf_144 145 rfl (by decide) ?_
            refine g_iadd dX10_sumOf_145 146 rfl ?_
            refine g_istore4 dX10_sumOf_146 148 rfl (by decide) rfl ?_
            refine g_iinc5 dX10_sumOf_148 151 rfl 1 (by decide) (nI (i + 1)) (nI_add _ 1) (by decide) rfl ?_
            refine g_goto dX10_sumOf_151 10 rfl ?_
            refine g_fgt (L' := [.ref 0, .int bits, .int (u0 + ((told (nI (13 + i))) - (10 * (s (nI (9 + i)))))), .int (u1 + 0), .int (u2 + 0), .int (nI (i + 1)), gF, gF, gF]) ⟨Or.inl rfl, Or.inl rfl, Or.inl rfl, Or.inl rfl, Or.inl rfl, Or.inl rfl, Or.inr rfl, Or.inr rfl, Or.inr rfl, trivial⟩ ?_
            have e : (fX10_sumOf_10 told s bits) i (u0, u1, u2) = ((u0 + ((told (nI (13 + i))) - (10 * (s (nI (9 + i)))))), (u1 + 0), (u2 + 0)) := by rw [fX10_sumOf_10, if_pos c1, if_neg c2, if_pos c3, if_pos c4]
            refine LX10_sumOf_10 hsz hs d (i + 1) (u0 + ((told (nI (13 + i))) - (10 * (s (nI (9 + i)))))) (u1 + 0) (u2 + 0) (by omega) ?_
            rw [← e]
            exact k
          · refine g_iconst 0 dX10_sumOf_94 95 rfl (by decide) ?_
            refine g_goto dX10_sumOf_95 115 rfl ?_
            refine g_iadd dX10_sumOf_115 116 rfl ?_
            refine g_istore2 dX10_sumOf_116 117 rfl (by decide) rfl ?_
            refine g_iload_n dX10_sumOf_117 rfl 118 rfl rfl ?_
            refine g_iload dX10_sumOf_118 120 rfl rfl ?_
            refine g_iconst 3 dX10_sumOf_120 121 rfl (by decide) ?_
            refine g_icmp_ne dX10_sumOf_121 129 rfl 124 rfl (fun _ => ?_) (fun c => absurd c (fun z => absurd (c3.symm.trans z) (by decide)))
            refine g_iconst 0 dX10_sumOf_129 130 rfl (by decide) ?_
            refine g_iadd dX10_sumOf_130 131 rfl ?_
            refine g_istore3 dX10_sumOf_131 132 rfl (by decide) rfl ?_
            refine g_iload dX10_sumOf_132 134 rfl rfl ?_
            refine g_iload dX10_sumOf_134 136 rfl rfl ?_
            refine g_iconst 3 dX10_sumOf_136 137 rfl (by decide) ?_
            refine g_icmp_ne dX10_sumOf_137 144 rfl 140 rfl (fun _ => ?_) (fun c => absurd c (fun z => absurd (c3.symm.trans z) (by decide)))
            refine g_iconst 0 dX10_sumOf_144 145 rfl (by decide) ?_
            refine g_iadd dX10_sumOf_145 146 rfl ?_
            refine g_istore4 dX10_sumOf_146 148 rfl (by decide) rfl ?_
            refine g_iinc5 dX10_sumOf_148 151 rfl 1 (by decide) (nI (i + 1)) (nI_add _ 1) (by decide) rfl ?_
            refine g_goto dX10_sumOf_151 10 rfl ?_
            refine g_fgt (L' := [.ref 0, .int bits, .int (u0 + 0), .int (u1 + 0), .int (u2 + 0), .int (nI (i + 1)), gF, gF, gF]) ⟨Or.inl rfl, Or.inl rfl, Or.inl rfl, Or.inl rfl, Or.inl rfl, Or.inl rfl, Or.inr rfl, Or.inr rfl, Or.inr rfl, trivial⟩ ?_
            have e : (fX10_sumOf_10 told s bits) i (u0, u1, u2) = ((u0 + 0), (u1 + 0), (u2 + 0)) := by rw [fX10_sumOf_10, if_pos c1, if_neg c2, if_pos c3, if_neg c4]
            refine LX10_sumOf_10 hsz hs d (i + 1) (u0 + 0) (u1 + 0) (u2 + 0) (by omega) ?_
            rw [← e]
            exact k
      · refine g_iconst 1 dX10_sumOf_79 80 rfl (by decide) ?_
        refine g_goto dX10_sumOf_80 115 rfl ?_
        refine g_iadd dX10_sumOf_115 116 rfl ?_
        refine g_istore2 dX10_sumOf_116 117 rfl (by decide) rfl ?_
        refine g_iload_n dX10_sumOf_117 rfl 118 rfl rfl ?_
        refine g_iload dX10_sumOf_118 120 rfl rfl ?_
        refine g_iconst 3 dX10_sumOf_120 121 rfl (by decide) ?_
        refine g_icmp_ne dX10_sumOf_121 129 rfl 124 rfl (fun _ => ?_) (fun c => absurd c (fun z => absurd (c2.symm.trans z) (by decide)))
        refine g_iconst 0 dX10_sumOf_129 130 rfl (by decide) ?_
        refine g_iadd dX10_sumOf_130 131 rfl ?_
        refine g_istore3 dX10_sumOf_131 132 rfl (by decide) rfl ?_
        refine g_iload dX10_sumOf_132 134 rfl rfl ?_
        refine g_iload dX10_sumOf_134 136 rfl rfl ?_
        refine g_iconst 3 dX10_sumOf_136 137 rfl (by decide) ?_
        refine g_icmp_ne dX10_sumOf_137 144 rfl 140 rfl (fun _ => ?_) (fun c => absurd c (fun z => absurd (c2.symm.trans z) (by decide)))
        refine g_iconst 0 dX10_sumOf_144 145 rfl (by decide) ?_
        refine g_iadd dX10_sumOf_145 146 rfl ?_
        refine g_istore4 dX10_sumOf_146 148 rfl (by decide) rfl ?_
        refine g_iinc5 dX10_sumOf_148 151 rfl 1 (by decide) (nI (i + 1)) (nI_add _ 1) (by decide) rfl ?_
        refine g_goto dX10_sumOf_151 10 rfl ?_
        refine g_fgt (L' := [.ref 0, .int bits, .int (u0 + 1), .int (u1 + 0), .int (u2 + 0), .int (nI (i + 1)), gF, gF, gF]) ⟨Or.inl rfl, Or.inl rfl, Or.inl rfl, Or.inl rfl, Or.inl rfl, Or.inl rfl, Or.inr rfl, Or.inr rfl, Or.inr rfl, trivial⟩ ?_
        have e : (fX10_sumOf_10 told s bits) i (u0, u1, u2) = ((u0 + 1), (u1 + 0), (u2 + 0)) := by rw [fX10_sumOf_10, if_pos c1, if_pos c2]
        refine LX10_sumOf_10 hsz hs d (i + 1) (u0 + 1) (u1 + 0) (u2 + 0) (by omega) ?_
        rw [← e]
        exact k
def rX10_sumOf (told : Int32 → Int32) (s : Int32 → Int32) (bits : Int32) (sz : Nat) : Int32 := (if ((gLp (fX10_sumOf_10 told s bits) sz 0 (0, 0, 0)).2.2) ≤ 1 then ((gLp (fX10_sumOf_10 told s bits) sz 0 (0, 0, 0)).1) else (((gLp (fX10_sumOf_10 told s bits) sz 0 (0, 0, 0)).1) + ((gLp (fX10_sumOf_10 told s bits) sz 0 (0, 0, 0)).2.1)))
set_option maxRecDepth 100000 in
set_option maxHeartbeats 4000000 in
theorem MX10_sumOf {w : gW} {al : Bool} {typed known kept noted at_ : Int32} {text told draft s past images notes alone parts held : Int32 → Int32} {sz : Nat} (bits : Int32) (hsz : told 0 = nI sz) (hs : sz ≤ 9)  : M w gT0 al mX10_sumOf 0 0 (hM text typed told draft s past known images kept notes noted at_ alone parts held) [.ref 0, .int bits] (gEq (hM text typed told draft s past known images kept notes noted at_ alone parts held) (some (.int (rX10_sumOf told s bits sz)))) := by
  refine M.of (L0 := [.ref 0, .int bits, gF, gF, gF, gF, gF, gF, gF]) (by decide +kernel) (Nat.le_of_ble_eq_true rfl) rfl ?_
  refine g_iconst 0 dX10_sumOf_0 1 rfl (by decide) ?_
  refine g_istore2 dX10_sumOf_1 2 rfl (by decide) rfl ?_
  refine g_iconst 0 dX10_sumOf_2 3 rfl (by decide) ?_
  refine g_istore3 dX10_sumOf_3 4 rfl (by decide) rfl ?_
  refine g_iconst 0 dX10_sumOf_4 5 rfl (by decide) ?_
  refine g_istore4 dX10_sumOf_5 7 rfl (by decide) rfl ?_
  refine g_iconst 0 dX10_sumOf_7 8 rfl (by decide) ?_
  refine g_istore5 dX10_sumOf_8 10 rfl (by decide) rfl ?_
  refine LX10_sumOf_10 hsz hs sz 0 0 0 0 (by omega) ?_
  refine g_iload dX10_sumOf_154 156 rfl rfl ?_
  refine g_iconst 1 dX10_sumOf_156 157 rfl (by decide) ?_
  refine g_icmp_le dX10_sumOf_157 166 rfl 160 rfl (fun c1 => ?_) (fun c1 => ?_)
  · refine g_iload_n dX10_sumOf_166 rfl 167 rfl rfl ?_
    refine g_ireturn dX10_sumOf_167 rfl rfl (Nat.le_refl _) (Nat.le_refl _) ?_
    have e : (rX10_sumOf told s bits sz) = ((gLp (fX10_sumOf_10 told s bits) sz 0 (0, 0, 0)).1) := by rw [rX10_sumOf, if_pos c1]
    rw [e]
    exact ⟨rfl, rfl⟩
  · refine g_iload_n dX10_sumOf_160 rfl 161 rfl rfl ?_
    refine g_iload_n dX10_sumOf_161 rfl 162 rfl rfl ?_
    refine g_iadd dX10_sumOf_162 163 rfl ?_
    refine g_goto dX10_sumOf_163 167 rfl ?_
    refine g_ireturn dX10_sumOf_167 rfl rfl (Nat.le_refl _) (Nat.le_refl _) ?_
    have e : (rX10_sumOf told s bits sz) = (((gLp (fX10_sumOf_10 told s bits) sz 0 (0, 0, 0)).1) + ((gLp (fX10_sumOf_10 told s bits) sz 0 (0, 0, 0)).2.1)) := by rw [rX10_sumOf, if_neg c1]
    rw [e]
    exact ⟨rfl, rfl⟩
