/-! the class: one State like another -/
def cpN (g : Int32 → Int32) (d i : Nat) (f : Int32 → Int32) : Int32 → Int32 := gLp (fun i f => gup f (nI i) (g (nI i))) d i f
set_option maxRecDepth 100000 in
set_option maxHeartbeats 4000000 in
theorem LX6_copyFrom {w : gW} {al : Bool} {n : Nat} {P : gP} {k k1 k2 j j1 j2 : Nat} {g : Int32 → Int32} {a1 a2 a3 a4 a5 a6 b1 b2 b3 b4 b5 b6 : Int32} (n1 : k2 ≠ k) (n2 : k2 ≠ k1) (n3 : k2 ≠ j) (n4 : k2 ≠ j1) (n5 : k2 ≠ j2) : ∀ (d i : Nat) (f : Int32 → Int32) (h : gH), h[k]? = some (.inr (.inr (6, [.ref 7, .ref k1, .int a1, .int a2, .int a3, .int a4, .int a5, .int a6]))) → h[k1]? = some (.inr (.inr (3, [.ref k2]))) → h[j]? = some (.inr (.inr (6, [.ref 7, .ref j1, .int b1, .int b2, .int b3, .int b4, .int b5, .int b6]))) → h[j1]? = some (.inr (.inr (3, [.ref j2]))) → h[j2]? = some (.inl (9, g)) → h[k2]? = some (.inl (9, f)) → i + d = 9 → G w gT0 al n mX6_copyFrom 0 0 P 0 0 (h.set k2 (.inl (9, cpN g d i f))) 30 [.ref k, .ref j, .int (nI 9)] [] → G w gT0 al n mX6_copyFrom 0 0 P 0 0 h 2 [.ref k, .ref j, .int (nI i)] [] := by
  intro d
  induction d with
  | zero =>
    intro i f h hk hk1 hj hj1 hj2 hk2 hi kk
    have hN : i = 9 := by omega
    rw [hN]
    refine g_iload_n dX6_copyFrom_2 rfl 3 rfl rfl ?_
    refine g_bipush 9 dX6_copyFrom_3 5 rfl (by decide) ?_
    refine g_icmp_ge dX6_copyFrom_5 30 rfl 8 rfl (fun _ => ?_) (fun c => absurd (nI_le (a := 9) (b := 9) (by omega) (by omega)) c)
    have e : h.set k2 (.inl (9, cpN g 0 i f)) = h := gset_self hk2
    rw [e] at kk
    exact kk
  | succ d ih =>
    intro i f h hk hk1 hj hj1 hj2 hk2 hi kk
    refine g_iload_n dX6_copyFrom_2 rfl 3 rfl rfl ?_
    refine g_bipush 9 dX6_copyFrom_3 5 rfl (by decide) ?_
    refine g_icmp_ge dX6_copyFrom_5 30 rfl 8 rfl (fun c => absurd c (nI_ge (a := i) (b := 9) (by omega) (by omega))) (fun _ => ?_)
    refine g_aload_n dX6_copyFrom_8 rfl 9 rfl rfl ?_
    refine g_get (v := .ref k1) dX6_copyFrom_9 12 rfl lX6_14 hk rfl ?_
    refine g_iload_n dX6_copyFrom_12 rfl 13 rfl rfl ?_
    refine g_aload_n dX6_copyFrom_13 rfl 14 rfl rfl ?_
    refine g_get (v := .ref j1) dX6_copyFrom_14 17 rfl lX6_14 hj rfl ?_
    refine g_iload_n dX6_copyFrom_17 rfl 18 rfl rfl ?_
    refine g_cVv (as := [.int (nI i)]) (st := [.int (nI i), .ref k1]) dX6_copyFrom_18 21 rfl kX6_46 ⟨Nat.le_of_ble_eq_true rfl, Nat.le_of_ble_eq_true rfl⟩ (MX3_atN (k := j1) (j := j2) (N := 9) (f := g) hj1 hj2 (by decide) i (by omega)) rfl rfl hj1 rfl (Nat.le_of_ble_eq_true rfl) (Nat.le_refl _) (Nat.le_refl _) ?_
    refine g_cV0 (as := [.int (nI i), .int (g (nI i))]) (st := []) dX6_copyFrom_21 24 rfl kX6_50 ⟨Nat.le_of_ble_eq_true rfl, Nat.le_of_ble_eq_true rfl⟩ (MX3_putN (k := k1) (j := k2) (N := 9) (f := f) hk1 hk2 (by decide) i (by omega) (g (nI i)) (h' := h.set k2 (.inl (9, gup f (nI i) (g (nI i))))) rfl) rfl rfl hk1 rfl (Nat.le_of_ble_eq_true rfl) (Nat.le_refl _) (Nat.le_refl _) ?_
    refine g_iinc2 dX6_copyFrom_24 27 rfl 1 (by decide) (nI (i + 1)) (nI_add _ 1) (by decide) rfl ?_
    refine g_goto dX6_copyFrom_27 2 rfl ?_
    refine ih (i + 1) (gup f (nI i) (g (nI i))) _ (by rw [gset_ne n1]; exact hk) (by rw [gset_ne n2]; exact hk1) (by rw [gset_ne n3]; exact hj) (by rw [gset_ne n4]; exact hj1) (by rw [gset_ne n5]; exact hj2) (gset_get hk2) (by omega) ?_
    rw [gset_set]
    exact kk
set_option maxRecDepth 100000 in
set_option maxHeartbeats 4000000 in
theorem MX6_copyFrom {w : gW} {al : Bool} {h : gH} {f : Int32 → Int32} {k k1 k2 j j1 j2 : Nat} {g : Int32 → Int32} {a1 a2 a3 a4 a5 a6 b1 b2 b3 b4 b5 b6 : Int32} (n1 : k2 ≠ k) (n2 : k2 ≠ k1) (n3 : k2 ≠ j) (n4 : k2 ≠ j1) (n5 : k2 ≠ j2) (n6 : k ≠ j) (hk : h[k]? = some (.inr (.inr (6, [.ref 7, .ref k1, .int a1, .int a2, .int a3, .int a4, .int a5, .int a6])))) (hk1 : h[k1]? = some (.inr (.inr (3, [.ref k2])))) (hj : h[j]? = some (.inr (.inr (6, [.ref 7, .ref j1, .int b1, .int b2, .int b3, .int b4, .int b5, .int b6])))) (hj1 : h[j1]? = some (.inr (.inr (3, [.ref j2])))) (hj2 : h[j2]? = some (.inl (9, g))) (hk2 : h[k2]? = some (.inl (9, f))) {h' : gH} (hh : ((h.set k2 (.inl (9, cpN g 9 0 f))).set k (.inr (.inr (6, [.ref 7, .ref k1, .int b1, .int b2, .int b3, .int b4, .int b5, .int b6])))) = h') : M w gT0 al mX6_copyFrom 0 0 h [.ref k, .ref j] (gEq h' none) := by
  subst hh
  refine M.of (L0 := [.ref k, .ref j, gF]) (by decide +kernel) (Nat.le_of_ble_eq_true rfl) rfl ?_
  refine g_iconst 0 dX6_copyFrom_0 1 rfl (by decide) ?_
  refine g_istore2 dX6_copyFrom_1 2 rfl (by decide) rfl ?_
  refine LX6_copyFrom n1 n2 n3 n4 n5 9 0 f h hk hk1 hj hj1 hj2 hk2 (by omega) ?_
  have hk0 : (h.set k2 (.inl (9, cpN g 9 0 f)))[k]? = some (.inr (.inr (6, [.ref 7, .ref k1, .int a1, .int a2, .int a3, .int a4, .int a5, .int a6]))) := by rw [gset_ne n1]; exact hk
  have hj0 : (h.set k2 (.inl (9, cpN g 9 0 f)))[j]? = some (.inr (.inr (6, [.ref 7, .ref j1, .int b1, .int b2, .int b3, .int b4, .int b5, .int b6]))) := by rw [gset_ne n3]; exact hj
  refine g_aload_n dX6_copyFrom_30 rfl 31 rfl rfl ?_
  refine g_aload_n dX6_copyFrom_31 rfl 32 rfl rfl ?_
  refine g_get (v := .int b1) dX6_copyFrom_32 35 rfl lX6_27 hj0 rfl ?_
  refine g_put dX6_copyFrom_35 38 rfl lX6_27 wrX6 rfl rfl rfl rfl hk0 (Nat.le_of_ble_eq_true rfl) (h' := ((h.set k2 (.inl (9, cpN g 9 0 f))).set k (.inr (.inr (6, [.ref 7, .ref k1, .int b1, .int a2, .int a3, .int a4, .int a5, .int a6]))))) rfl ?_
  have hk10 : ((h.set k2 (.inl (9, cpN g 9 0 f))).set k (.inr (.inr (6, [.ref 7, .ref k1, .int b1, .int a2, .int a3, .int a4, .int a5, .int a6]))))[k]? = some (.inr (.inr (6, [.ref 7, .ref k1, .int b1, .int a2, .int a3, .int a4, .int a5, .int a6]))) := gset_get hk0
  have hj10 : ((h.set k2 (.inl (9, cpN g 9 0 f))).set k (.inr (.inr (6, [.ref 7, .ref k1, .int b1, .int a2, .int a3, .int a4, .int a5, .int a6]))))[j]? = some (.inr (.inr (6, [.ref 7, .ref j1, .int b1, .int b2, .int b3, .int b4, .int b5, .int b6]))) := by rw [gset_ne n6]; exact hj0
  refine g_aload_n dX6_copyFrom_38 rfl 39 rfl rfl ?_
  refine g_aload_n dX6_copyFrom_39 rfl 40 rfl rfl ?_
  refine g_get (v := .int b2) dX6_copyFrom_40 43 rfl lX6_31 hj10 rfl ?_
  refine g_put dX6_copyFrom_43 46 rfl lX6_31 wrX6 rfl rfl rfl rfl hk10 (Nat.le_of_ble_eq_true rfl) (h' := ((h.set k2 (.inl (9, cpN g 9 0 f))).set k (.inr (.inr (6, [.ref 7, .ref k1, .int b1, .int b2, .int a3, .int a4, .int a5, .int a6]))))) gset_set ?_
  have hk20 : ((h.set k2 (.inl (9, cpN g 9 0 f))).set k (.inr (.inr (6, [.ref 7, .ref k1, .int b1, .int b2, .int a3, .int a4, .int a5, .int a6]))))[k]? = some (.inr (.inr (6, [.ref 7, .ref k1, .int b1, .int b2, .int a3, .int a4, .int a5, .int a6]))) := gset_get hk0
  have hj20 : ((h.set k2 (.inl (9, cpN g 9 0 f))).set k (.inr (.inr (6, [.ref 7, .ref k1, .int b1, .int b2, .int a3, .int a4, .int a5, .int a6]))))[j]? = some (.inr (.inr (6, [.ref 7, .ref j1, .int b1, .int b2, .int b3, .int b4, .int b5, .int b6]))) := by rw [gset_ne n6]; exact hj0
  refine g_aload_n dX6_copyFrom_46 rfl 47 rfl rfl ?_
  refine g_aload_n dX6_copyFrom_47 rfl 48 rfl rfl ?_
  refine g_get (v := .int b3) dX6_copyFrom_48 51 rfl lX6_34 hj20 rfl ?_
  refine g_put dX6_copyFrom_51 54 rfl lX6_34 wrX6 rfl rfl rfl rfl hk20 (Nat.le_of_ble_eq_true rfl) (h' := ((h.set k2 (.inl (9, cpN g 9 0 f))).set k (.inr (.inr (6, [.ref 7, .ref k1, .int b1, .int b2, .int b3, .int a4, .int a5, .int a6]))))) gset_set ?_
  have hk30 : ((h.set k2 (.inl (9, cpN g 9 0 f))).set k (.inr (.inr (6, [.ref 7, .ref k1, .int b1, .int b2, .int b3, .int a4, .int a5, .int a6]))))[k]? = some (.inr (.inr (6, [.ref 7, .ref k1, .int b1, .int b2, .int b3, .int a4, .int a5, .int a6]))) := gset_get hk0
  have hj30 : ((h.set k2 (.inl (9, cpN g 9 0 f))).set k (.inr (.inr (6, [.ref 7, .ref k1, .int b1, .int b2, .int b3, .int a4, .int a5, .int a6]))))[j]? = some (.inr (.inr (6, [.ref 7, .ref j1, .int b1, .int b2, .int b3, .int b4, .int b5, .int b6]))) := by rw [gset_ne n6]; exact hj0
  refine g_aload_n dX6_copyFrom_54 rfl 55 rfl rfl ?_
  refine g_aload_n dX6_copyFrom_55 rfl 56 rfl rfl ?_
  refine g_get (v := .int b4) dX6_copyFrom_56 59 rfl lX6_37 hj30 rfl ?_
  refine g_put dX6_copyFrom_59 62 rfl lX6_37 wrX6 rfl rfl rfl rfl hk30 (Nat.le_of_ble_eq_true rfl) (h' := ((h.set k2 (.inl (9, cpN g 9 0 f))).set k (.inr (.inr (6, [.ref 7, .ref k1, .int b1, .int b2, .int b3, .int b4, .int a5, .int a6]))))) gset_set ?_
  have hk40 : ((h.set k2 (.inl (9, cpN g 9 0 f))).set k (.inr (.inr (6, [.ref 7, .ref k1, .int b1, .int b2, .int b3, .int b4, .int a5, .int a6]))))[k]? = some (.inr (.inr (6, [.ref 7, .ref k1, .int b1, .int b2, .int b3, .int b4, .int a5, .int a6]))) := gset_get hk0
  have hj40 : ((h.set k2 (.inl (9, cpN g 9 0 f))).set k (.inr (.inr (6, [.ref 7, .ref k1, .int b1, .int b2, .int b3, .int b4, .int a5, .int a6]))))[j]? = some (.inr (.inr (6, [.ref 7, .ref j1, .int b1, .int b2, .int b3, .int b4, .int b5, .int b6]))) := by rw [gset_ne n6]; exact hj0
  refine g_aload_n dX6_copyFrom_62 rfl 63 rfl rfl ?_
  refine g_aload_n dX6_copyFrom_63 rfl 64 rfl rfl ?_
  refine g_get (v := .int b5) dX6_copyFrom_64 67 rfl lX6_40 hj40 rfl ?_
  refine g_put dX6_copyFrom_67 70 rfl lX6_40 wrX6 rfl rfl rfl rfl hk40 (Nat.le_of_ble_eq_true rfl) (h' := ((h.set k2 (.inl (9, cpN g 9 0 f))).set k (.inr (.inr (6, [.ref 7, .ref k1, .int b1, .int b2, .int b3, .int b4, .int b5, .int a6]))))) gset_set ?_
  have hk50 : ((h.set k2 (.inl (9, cpN g 9 0 f))).set k (.inr (.inr (6, [.ref 7, .ref k1, .int b1, .int b2, .int b3, .int b4, .int b5, .int a6]))))[k]? = some (.inr (.inr (6, [.ref 7, .ref k1, .int b1, .int b2, .int b3, .int b4, .int b5, .int a6]))) := gset_get hk0
  have hj50 : ((h.set k2 (.inl (9, cpN g 9 0 f))).set k (.inr (.inr (6, [.ref 7, .ref k1, .int b1, .int b2, .int b3, .int b4, .int b5, .int a6]))))[j]? = some (.inr (.inr (6, [.ref 7, .ref j1, .int b1, .int b2, .int b3, .int b4, .int b5, .int b6]))) := by rw [gset_ne n6]; exact hj0
  refine g_aload_n dX6_copyFrom_70 rfl 71 rfl rfl ?_
  refine g_aload_n dX6_copyFrom_71 rfl 72 rfl rfl ?_
  refine g_get (v := .int b6) dX6_copyFrom_72 75 rfl lX6_43 hj50 rfl ?_
  refine g_put dX6_copyFrom_75 78 rfl lX6_43 wrX6 rfl rfl rfl rfl hk50 (Nat.le_of_ble_eq_true rfl) (h' := ((h.set k2 (.inl (9, cpN g 9 0 f))).set k (.inr (.inr (6, [.ref 7, .ref k1, .int b1, .int b2, .int b3, .int b4, .int b5, .int b6]))))) gset_set ?_
  have hk60 : ((h.set k2 (.inl (9, cpN g 9 0 f))).set k (.inr (.inr (6, [.ref 7, .ref k1, .int b1, .int b2, .int b3, .int b4, .int b5, .int b6]))))[k]? = some (.inr (.inr (6, [.ref 7, .ref k1, .int b1, .int b2, .int b3, .int b4, .int b5, .int b6]))) := gset_get hk0
  have hj60 : ((h.set k2 (.inl (9, cpN g 9 0 f))).set k (.inr (.inr (6, [.ref 7, .ref k1, .int b1, .int b2, .int b3, .int b4, .int b5, .int b6]))))[j]? = some (.inr (.inr (6, [.ref 7, .ref j1, .int b1, .int b2, .int b3, .int b4, .int b5, .int b6]))) := by rw [gset_ne n6]; exact hj0
  exact g_return dX6_copyFrom_78 rfl (Nat.le_refl _) (Nat.le_refl _) ⟨rfl, rfl⟩
