/-! the class: Shelf -/
section GNull
variable {w : gW} {E : State → Prop} {al : Bool} {n : Nat} {y : gY} {mc ms : Nat} {P : gP} {cs sl : Nat} {h : gH} {pc : Nat} {L st : List Value}
theorem g_astore_nN {j : Fin 4} {i : Nat} (hd : decode y.2.1 pc = .ok (.astore_n j, 1)) (hi : (j : Nat) = i) (q : Nat) (hq : pc + 1 = q) (hb : i < y.2.2.1) (hc : ∀ (j : Nat) (u : Value), j + 1 = i → L[j]? = some u → u.category = 1) {L' : List Value} (hL : L.set i .null = L') (k : G w E al n y mc ms P cs sl h q L' st) : G w E al n y mc ms P cs sl h pc L (.null :: st) := by
  subst hq
  subst hL
  intro p e s m args below meth c C H locs ls X1 X2 X3
  exact lv_astore_nN C.1 C.2.1 hd hi X3.has hb rfl (fun ls' h' => k p e s m args below meth c C H locs ls' X1 X2 (gL.st1 (v := .null) hb X3.2.2.1 hc h'))
theorem g_aload_nN {j : Fin 4} {i : Nat} (hd : decode y.2.1 pc = .ok (.aload_n j, 1)) (hi : (j : Nat) = i) (q : Nat) (hq : pc + 1 = q) (hl : L[i]? = some .null) (k : G w E al n y mc ms P cs sl h q L (.null :: st)) : G w E al n y mc ms P cs sl h pc L st := by
  subst hq
  intro p e s m args below meth c C H locs ls X1 X2 X3
  exact lv_aload_nN C.1 C.2.1 hd hi (X3.2.2.2 i _ hl (by simp [gF])) (k p e s m args below meth c C H locs ls X1 X2 X3)
theorem g_astore2N {a0 a1 b0 : Value} {r : List Value} (hd : decode y.2.1 pc = .ok (.astore_n 2, 1)) (q : Nat) (hq : pc + 1 = q) (hb : 2 < y.2.2.1) (hc : a1.category = 1) (k : G w E al n y mc ms P cs sl h q (a0 :: a1 :: .null :: r) st) : G w E al n y mc ms P cs sl h pc (a0 :: a1 :: b0 :: r) (.null :: st) :=
  g_astore_nN hd rfl q hq hb (by
    intro j u hj hu
    have hj' : j = 1 := by omega
    subst hj'
    simp only [List.getElem?_cons_succ, List.getElem?_cons_zero, Option.some.injEq] at hu
    subst hu
    exact hc) rfl k
end GNull
/-- the array of the past -/
def shl (pg : Nat → Nat) : Nat → Option Nat := fun j => if j < 8 then some (37 + 3 * pg j) else none
def rot (pg : Nat → Nat) : Nat → Nat := fun j => if j < 7 then pg (j + 1) else if j = 7 then pg 0 else pg j
def pgA (pg : Nat → Nat) (n : Nat) : Nat → Nat := if n = 8 then rot pg else pg
def upS (st : Nat → gS) (o : Nat) (v : gS) : Nat → gS := fun k => if k = o then v else st k
/-- a state's cells behind copyFrom -/
def cpS (v old : gS) : gS := (cpN v.1 9 0 old.1, v.2)
def pstA (st : Nat → gS) (pg : Nat → Nat) (n : Nat) (v : gS) : Nat → gS := upS st (pgA pg n (kNx n - 1)) (cpS v (st (pgA pg n (kNx n - 1))))
def shF : Nat → (Nat → Option Nat) → (Nat → Option Nat) := fun i f => va_up f (i - 1) (f i)
theorem shl_at {pg : Nat → Nat} {j : Nat} (h : j < 8) : shl pg j = some (37 + 3 * pg j) := if_pos h
theorem shl_rot (pg : Nat → Nat) : va_up (gLp shF 7 1 (shl pg)) 7 (shl pg 0) = shl (rot pg) := by
  funext j
  by_cases h : j < 8
  · have hj : j = 0 ∨ j = 1 ∨ j = 2 ∨ j = 3 ∨ j = 4 ∨ j = 5 ∨ j = 6 ∨ j = 7 := by omega
    rcases hj with rfl | rfl | rfl | rfl | rfl | rfl | rfl | rfl <;> rfl
  · have h0 : ∀ k, k < 8 → j ≠ k := fun k hk z => h (by omega)
    have e1 : gLp shF 7 1 (shl pg) j = shl pg j := by
      simp only [gLp, shF, va_up]
      simp only [h0 0 (by omega), h0 1 (by omega), h0 2 (by omega), h0 3 (by omega), h0 4 (by omega), h0 5 (by omega), h0 6 (by omega), if_false, Nat.reduceSub, Nat.reduceAdd]
    rw [va_up_ne _ _ (h0 7 (by omega)), e1]
    unfold shl
    rw [if_neg h, if_neg h]
theorem MX5_at {w : gW} {al : Bool} {h : gH} {a b N i k : Nat} {f : Nat → Option Nat} {x : Int32} (ha : h[a]? = some (.inr (.inr (5, [.ref b, .int x])))) (hb : h[b]? = some (.inr (.inl (N, f)))) (hN : N < 2 ^ 31) (hi : i < N) (hf : f i = some k) : M w gT0 al mX5_at 0 0 h [.ref a, .int (nI i)] (gEq h (some (.ref k))) := by
  refine M.of (L0 := [.ref a, .int (nI i)]) (by decide +kernel) (Nat.le_of_ble_eq_true rfl) rfl ?_
  refine g_iload_n dX5_at_0 rfl 1 rfl rfl ?_
  refine g_if_lt dX5_at_1 22 rfl 4 rfl (fun c => absurd c (nI_pos (by omega))) (fun _ => ?_)
  refine g_iload_n dX5_at_4 rfl 5 rfl rfl ?_
  refine g_aload_n dX5_at_5 rfl 6 rfl rfl ?_
  refine g_get (v := .ref b) dX5_at_6 9 rfl lX5_9 ha rfl ?_
  refine g_alenq dX5_at_9 10 rfl hb (nI N) rfl ?_
  refine g_icmp_ge dX5_at_10 22 rfl 13 rfl (fun c => absurd c (nI_ge hi hN)) (fun _ => ?_)
  refine g_aload_n dX5_at_13 rfl 14 rfl rfl ?_
  refine g_get (v := .ref b) dX5_at_14 17 rfl lX5_9 ha rfl ?_
  refine g_iload_n dX5_at_17 rfl 18 rfl rfl ?_
  refine g_aaload (N := N) dX5_at_18 19 rfl hb (vp_in_nI hi hN) (by rw [nI_clamp (by omega)]; exact hf) ?_
  refine g_goto dX5_at_19 23 rfl ?_
  exact g_areturn dX5_at_23 rfl (Or.inl ⟨_, rfl⟩) (Nat.le_refl _) (Nat.le_refl _) ⟨rfl, rfl⟩
theorem MX5_atN {w : gW} {al : Bool} {h : gH} {a : Nat} : M w gT0 al mX5_at 0 0 h [.ref a, .int (-1)] (gEq h (some .null)) := by
  refine M.of (L0 := [.ref a, .int (-1)]) (by decide +kernel) (Nat.le_of_ble_eq_true rfl) rfl ?_
  refine g_iload_n dX5_at_0 rfl 1 rfl rfl ?_
  refine g_if_lt dX5_at_1 22 rfl 4 rfl (fun _ => ?_) (fun c => absurd (by decide) c)
  refine g_null dX5_at_22 23 rfl ?_
  exact g_areturnN dX5_at_23 rfl (Or.inl ⟨_, rfl⟩) (Nat.le_refl _) (Nat.le_refl _) ⟨rfl, rfl⟩
theorem MX5_clear {w : gW} {al : Bool} {h : gH} {a b : Nat} {x : Int32} (ha : h[a]? = some (.inr (.inr (5, [.ref b, .int x])))) {h' : gH} (hh : h.set a (.inr (.inr (5, [.ref b, .int 0]))) = h') : M w gT0 al mX5_clear 0 0 h [.ref a] (gEq h' none) := by
  refine M.of (L0 := [.ref a]) (by decide +kernel) (Nat.le_of_ble_eq_true rfl) rfl ?_
  refine g_aload_n dX5_clear_0 rfl 1 rfl rfl ?_
  refine g_iconst 0 dX5_clear_1 2 rfl (by decide) ?_
  refine g_put dX5_clear_2 5 rfl lX5_18 wrX5 rfl rfl rfl rfl ha (Nat.le_of_ble_eq_true rfl) (h' := h') hh ?_
  exact g_return dX5_clear_5 rfl (Nat.le_refl _) (Nat.le_refl _) ⟨rfl, rfl⟩
set_option maxRecDepth 100000 in
set_option maxHeartbeats 4000000 in
theorem LX5_dropOldest {w : gW} {al : Bool} {n a b k : Nat} {P : gP} {x : Int32} (hab : b ≠ a) : ∀ (d i : Nat) (f : Nat → Option Nat) (h : gH), h[a]? = some (.inr (.inr (5, [.ref b, .int x]))) → h[b]? = some (.inr (.inl (8, f))) → (∀ j, j < 8 → ∃ (k : Nat) (vs : List Value), f j = some k ∧ b ≠ k ∧ h[k]? = some (.inr (.inr (6, vs)))) → 1 ≤ i → i + d = 8 → G w gT0 al n mX5_dropOldest 0 0 P 0 0 (h.set b (.inr (.inl (8, gLp shF d i f)))) 37 [.ref a, .ref k, .int (nI 8)] [] → G w gT0 al n mX5_dropOldest 0 0 P 0 0 h 8 [.ref a, .ref k, .int (nI i)] [] := by
  intro d
  induction d with
  | zero =>
    intro i f h ha hb hs h1 hi kk
    have hN : i = 8 := by omega
    rw [hN]
    refine g_iload_n dX5_dropOldest_8 rfl 9 rfl rfl ?_
    refine g_aload_n dX5_dropOldest_9 rfl 10 rfl rfl ?_
    refine g_get (v := .ref b) dX5_dropOldest_10 13 rfl lX5_9 ha rfl ?_
    refine g_alenq dX5_dropOldest_13 14 rfl hb (nI 8) rfl ?_
    refine g_icmp_ge dX5_dropOldest_14 37 rfl 17 rfl (fun _ => ?_) (fun c => absurd (by decide) c)
    have e : h.set b (.inr (.inl (8, gLp shF 0 i f))) = h := gset_self hb
    rw [e] at kk
    exact kk
  | succ d ih =>
    intro i f h ha hb hs h1 hi kk
    obtain ⟨ki, vs, e1, e2, e3⟩ := hs i (by omega)
    refine g_iload_n dX5_dropOldest_8 rfl 9 rfl rfl ?_
    refine g_aload_n dX5_dropOldest_9 rfl 10 rfl rfl ?_
    refine g_get (v := .ref b) dX5_dropOldest_10 13 rfl lX5_9 ha rfl ?_
    refine g_alenq dX5_dropOldest_13 14 rfl hb (nI 8) rfl ?_
    refine g_icmp_ge dX5_dropOldest_14 37 rfl 17 rfl (fun c => absurd c (nI_ge (by omega) (by omega))) (fun _ => ?_)
    refine g_aload_n dX5_dropOldest_17 rfl 18 rfl rfl ?_
    refine g_get (v := .ref b) dX5_dropOldest_18 21 rfl lX5_9 ha rfl ?_
    refine g_iload_n dX5_dropOldest_21 rfl 22 rfl rfl ?_
    refine g_iconst 1 dX5_dropOldest_22 23 rfl (by decide) ?_
    refine g_isub' dX5_dropOldest_23 24 rfl (nI (i - 1)) (pk_sub (b := 1) h1) ?_
    refine g_aload_n dX5_dropOldest_24 rfl 25 rfl rfl ?_
    refine g_get (v := .ref b) dX5_dropOldest_25 28 rfl lX5_9 ha rfl ?_
    refine g_iload_n dX5_dropOldest_28 rfl 29 rfl rfl ?_
    refine g_aaload (N := 8) dX5_dropOldest_29 30 rfl hb (vp_in_nI (by omega) (by decide)) (by rw [nI_clamp (by omega)]; exact e1) ?_
    refine g_aastore (N := 8) dX5_dropOldest_30 31 rfl hb (vp_in_nI (by omega) (by decide)) e3 (h' := h.set b (.inr (.inl (8, shF i f)))) (by unfold shF; rw [nI_clamp (by omega), e1]) ?_
    refine g_iinc2 dX5_dropOldest_31 34 rfl 1 (by decide) (nI (i + 1)) (nI_add _ 1) (by decide) rfl ?_
    refine g_goto dX5_dropOldest_34 8 rfl ?_
    refine ih (i + 1) (shF i f) _ (by rw [gset_ne hab]; exact ha) (gset_get hb) (fun j hj => ?_) (by omega) (by omega) ?_
    · by_cases hji : j = i - 1
      · subst hji
        exact ⟨ki, vs, (va_up_self _ _ _).trans e1, e2, by rw [gset_ne e2]; exact e3⟩
      · obtain ⟨kj, vj, q1, q2, q3⟩ := hs j hj
        exact ⟨kj, vj, (va_up_ne _ _ hji).trans q1, q2, by rw [gset_ne q2]; exact q3⟩
    · rw [gset_set]
      exact kk
set_option maxRecDepth 100000 in
set_option maxHeartbeats 4000000 in
theorem MX5_dropOldest {w : gW} {al : Bool} {h : gH} {a b : Nat} {f : Nat → Option Nat} (hab : b ≠ a) (ha : h[a]? = some (.inr (.inr (5, [.ref b, .int (nI 8)])))) (hb : h[b]? = some (.inr (.inl (8, f)))) (hs : (∀ j, j < 8 → ∃ (k : Nat) (vs : List Value), f j = some k ∧ b ≠ k ∧ h[k]? = some (.inr (.inr (6, vs))))) {h' : gH} (hh : (h.set b (.inr (.inl (8, va_up (gLp shF 7 1 f) 7 (f 0))))).set a (.inr (.inr (5, [.ref b, .int (nI 7)]))) = h') : M w gT0 al mX5_dropOldest 0 0 h [.ref a] (gEq h' none) := by
  subst hh
  obtain ⟨k0, vs, e1, e2, e3⟩ := hs 0 (by omega)
  refine M.of (L0 := [.ref a, gF, gF]) (by decide +kernel) (Nat.le_of_ble_eq_true rfl) rfl ?_
  refine g_aload_n dX5_dropOldest_0 rfl 1 rfl rfl ?_
  refine g_iconst 0 dX5_dropOldest_1 2 rfl (by decide) ?_
  refine g_cVv (as := [.int (nI 0)]) (st := []) dX5_dropOldest_2 5 rfl kX5_25 ⟨Nat.le_of_ble_eq_true rfl, Nat.le_of_ble_eq_true rfl⟩ (MX5_at (i := 0) ha hb (by decide) (by omega) e1) rfl rfl ha rfl (Nat.le_of_ble_eq_true rfl) (Nat.le_refl _) (Nat.le_refl _) ?_
  refine g_astore1 dX5_dropOldest_5 6 rfl (by decide) rfl ?_
  refine g_iconst 1 dX5_dropOldest_6 7 rfl (by decide) ?_
  refine g_istore2 dX5_dropOldest_7 8 rfl (by decide) rfl ?_
  refine LX5_dropOldest hab 7 1 f h ha hb hs (by omega) (by omega) ?_
  have hb1 : (h.set b (.inr (.inl (8, gLp shF 7 1 f))))[b]? = some (.inr (.inl (8, gLp shF 7 1 f))) := gset_get hb
  have ha1 : (h.set b (.inr (.inl (8, gLp shF 7 1 f))))[a]? = some (.inr (.inr (5, [.ref b, .int (nI 8)]))) := by rw [gset_ne hab]; exact ha
  refine g_aload_n dX5_dropOldest_37 rfl 38 rfl rfl ?_
  refine g_get (v := .int (nI 8)) dX5_dropOldest_38 41 rfl lX5_18 ha1 rfl ?_
  refine g_if_le dX5_dropOldest_41 79 rfl 44 rfl (fun c => absurd c (by decide)) (fun _ => ?_)
  refine g_aload_n dX5_dropOldest_44 rfl 45 rfl rfl ?_
  refine g_ifnull dX5_dropOldest_45 48 rfl ?_
  refine g_aload_n dX5_dropOldest_48 rfl 49 rfl rfl ?_
  refine g_get (v := .ref b) dX5_dropOldest_49 52 rfl lX5_9 ha1 rfl ?_
  refine g_alenq dX5_dropOldest_52 53 rfl hb1 (nI 8) rfl ?_
  refine g_if_le dX5_dropOldest_53 79 rfl 56 rfl (fun c => absurd c (by decide)) (fun _ => ?_)
  refine g_aload_n dX5_dropOldest_56 rfl 57 rfl rfl ?_
  refine g_get (v := .ref b) dX5_dropOldest_57 60 rfl lX5_9 ha1 rfl ?_
  refine g_aload_n dX5_dropOldest_60 rfl 61 rfl rfl ?_
  refine g_get (v := .ref b) dX5_dropOldest_61 64 rfl lX5_9 ha1 rfl ?_
  refine g_alenq dX5_dropOldest_64 65 rfl hb1 (nI 8) rfl ?_
  refine g_iconst 1 dX5_dropOldest_65 66 rfl (by decide) ?_
  refine g_isub' dX5_dropOldest_66 67 rfl (nI 7) (by decide) ?_
  refine g_aload_n dX5_dropOldest_67 rfl 68 rfl rfl ?_
  refine g_aastore (N := 8) dX5_dropOldest_68 69 rfl hb1 (vp_in_nI (by omega) (by decide)) (by rw [gset_ne e2]; exact e3) (h' := h.set b (.inr (.inl (8, va_up (gLp shF 7 1 f) 7 (f 0))))) (by rw [gset_set, nI_clamp (by omega), e1]) ?_
  have ha2 : (h.set b (.inr (.inl (8, va_up (gLp shF 7 1 f) 7 (f 0)))))[a]? = some (.inr (.inr (5, [.ref b, .int (nI 8)]))) := by rw [gset_ne hab]; exact ha
  refine g_aload_n dX5_dropOldest_69 rfl 70 rfl rfl ?_
  refine g_dup dX5_dropOldest_70 71 rfl rfl ?_
  refine g_get (v := .int (nI 8)) dX5_dropOldest_71 74 rfl lX5_18 ha2 rfl ?_
  refine g_iconst 1 dX5_dropOldest_74 75 rfl (by decide) ?_
  refine g_isub' dX5_dropOldest_75 76 rfl (nI 7) (by decide) ?_
  refine g_put dX5_dropOldest_76 79 rfl lX5_18 wrX5 rfl rfl rfl rfl ha2 (Nat.le_of_ble_eq_true rfl) rfl ?_
  exact g_return dX5_dropOldest_79 rfl (Nat.le_refl _) (Nat.le_refl _) ⟨rfl, rfl⟩
set_option maxRecDepth 100000 in
set_option maxHeartbeats 4000000 in
theorem LX5_add {w : gW} {al : Bool} {n : Nat} {h : gH} {a b N i : Nat} {f : Nat → Option Nat} {k k1 k2 j j1 j2 : Nat} {g g2 : Int32 → Int32} {a1 a2 a3 a4 a5 a6 b1 b2 b3 b4 b5 b6 : Int32} (n1 : k2 ≠ k) (n2 : k2 ≠ k1) (n3 : k2 ≠ j) (n4 : k2 ≠ j1) (n5 : k2 ≠ j2) (n6 : k ≠ j) (n7 : k2 ≠ a) (n8 : k ≠ a) (ha : h[a]? = some (.inr (.inr (5, [.ref b, .int (nI i)])))) (hb : h[b]? = some (.inr (.inl (N, f)))) (hN : N < 2 ^ 31) (hi : i < N) (hf : f i = some k) (hk : h[k]? = some (.inr (.inr (6, [.ref 7, .ref k1, .int a1, .int a2, .int a3, .int a4, .int a5, .int a6])))) (hk1 : h[k1]? = some (.inr (.inr (3, [.ref k2])))) (hj : h[j]? = some (.inr (.inr (6, [.ref 7, .ref j1, .int b1, .int b2, .int b3, .int b4, .int b5, .int b6])))) (hj1 : h[j1]? = some (.inr (.inr (3, [.ref j2])))) (hj2 : h[j2]? = some (.inl (9, g))) (hk2 : h[k2]? = some (.inl (9, g2))) {h' : gH} (hh : ((h.set k2 (.inl (9, cpN g 9 0 g2))).set k (.inr (.inr (6, [.ref 7, .ref k1, .int b1, .int b2, .int b3, .int b4, .int b5, .int b6])))).set a (.inr (.inr (5, [.ref b, .int (nI (i + 1))]))) = h') : G w gT0 al n mX5_add 0 0 (gEq h' none) 0 0 h 16 [.ref a, .ref j, gF] [] := by
  subst hh
  refine g_aload_n dX5_add_16 rfl 17 rfl rfl ?_
  refine g_aload_n dX5_add_17 rfl 18 rfl rfl ?_
  refine g_get (v := .int (nI i)) dX5_add_18 21 rfl lX5_18 ha rfl ?_
  refine g_cVv (as := [.int (nI i)]) (st := []) dX5_add_21 24 rfl kX5_25 ⟨Nat.le_of_ble_eq_true rfl, Nat.le_of_ble_eq_true rfl⟩ (MX5_at ha hb hN hi hf) rfl rfl ha rfl (Nat.le_of_ble_eq_true rfl) (Nat.le_refl _) (Nat.le_refl _) ?_
  refine g_astore2 dX5_add_24 25 rfl (by decide) rfl ?_
  refine g_aload_n dX5_add_25 rfl 26 rfl rfl ?_
  refine g_ifnull dX5_add_26 29 rfl ?_
  refine g_aload_n dX5_add_29 rfl 30 rfl rfl ?_
  refine g_aload_n dX5_add_30 rfl 31 rfl rfl ?_
  refine g_cV0 (as := [.ref j]) (st := []) dX5_add_31 34 rfl kX5_29 ⟨Nat.le_of_ble_eq_true rfl, Nat.le_of_ble_eq_true rfl⟩ (MX6_copyFrom (h' := ((h.set k2 (.inl (9, cpN g 9 0 g2))).set k (.inr (.inr (6, [.ref 7, .ref k1, .int b1, .int b2, .int b3, .int b4, .int b5, .int b6]))))) n1 n2 n3 n4 n5 n6 hk hk1 hj hj1 hj2 hk2 rfl) rfl rfl hk rfl (Nat.le_of_ble_eq_true rfl) (Nat.le_refl _) (Nat.le_refl _) ?_
  have ha2 : ((h.set k2 (.inl (9, cpN g 9 0 g2))).set k (.inr (.inr (6, [.ref 7, .ref k1, .int b1, .int b2, .int b3, .int b4, .int b5, .int b6]))))[a]? = some (.inr (.inr (5, [.ref b, .int (nI i)]))) := by rw [gset_ne n8, gset_ne n7]; exact ha
  refine g_aload_n dX5_add_34 rfl 35 rfl rfl ?_
  refine g_dup dX5_add_35 36 rfl rfl ?_
  refine g_get (v := .int (nI i)) dX5_add_36 39 rfl lX5_18 ha2 rfl ?_
  refine g_iconst 1 dX5_add_39 40 rfl (by decide) ?_
  refine g_iadd' dX5_add_40 41 rfl (nI (i + 1)) (nI_add _ 1) ?_
  refine g_put dX5_add_41 44 rfl lX5_18 wrX5 rfl rfl rfl rfl ha2 (Nat.le_of_ble_eq_true rfl) rfl ?_
  exact g_return dX5_add_44 rfl (Nat.le_refl _) (Nat.le_refl _) ⟨rfl, rfl⟩
set_option maxRecDepth 100000 in
set_option maxHeartbeats 4000000 in
theorem MX5_add {w : gW} {al : Bool} {h : gH} {a b N i : Nat} {f : Nat → Option Nat} {k k1 k2 j j1 j2 : Nat} {g g2 : Int32 → Int32} {a1 a2 a3 a4 a5 a6 b1 b2 b3 b4 b5 b6 : Int32} (n1 : k2 ≠ k) (n2 : k2 ≠ k1) (n3 : k2 ≠ j) (n4 : k2 ≠ j1) (n5 : k2 ≠ j2) (n6 : k ≠ j) (n7 : k2 ≠ a) (n8 : k ≠ a) (ha : h[a]? = some (.inr (.inr (5, [.ref b, .int (nI i)])))) (hb : h[b]? = some (.inr (.inl (N, f)))) (hN : N < 2 ^ 31) (hi : i < N) (hf : f i = some k) (hk : h[k]? = some (.inr (.inr (6, [.ref 7, .ref k1, .int a1, .int a2, .int a3, .int a4, .int a5, .int a6])))) (hk1 : h[k1]? = some (.inr (.inr (3, [.ref k2])))) (hj : h[j]? = some (.inr (.inr (6, [.ref 7, .ref j1, .int b1, .int b2, .int b3, .int b4, .int b5, .int b6])))) (hj1 : h[j1]? = some (.inr (.inr (3, [.ref j2])))) (hj2 : h[j2]? = some (.inl (9, g))) (hk2 : h[k2]? = some (.inl (9, g2))) {h' : gH} (hh : ((h.set k2 (.inl (9, cpN g 9 0 g2))).set k (.inr (.inr (6, [.ref 7, .ref k1, .int b1, .int b2, .int b3, .int b4, .int b5, .int b6])))).set a (.inr (.inr (5, [.ref b, .int (nI (i + 1))]))) = h') : M w gT0 al mX5_add 0 0 h [.ref a, .ref j] (gEq h' none) := by
  refine M.of (L0 := [.ref a, .ref j, gF]) (by decide +kernel) (Nat.le_of_ble_eq_true rfl) rfl ?_
  refine g_aload_n dX5_add_0 rfl 1 rfl rfl ?_
  refine g_get (v := .int (nI i)) dX5_add_1 4 rfl lX5_18 ha rfl ?_
  refine g_aload_n dX5_add_4 rfl 5 rfl rfl ?_
  refine g_get (v := .ref b) dX5_add_5 8 rfl lX5_9 ha rfl ?_
  refine g_alenq dX5_add_8 9 rfl hb (nI N) rfl ?_
  refine g_icmp_lt dX5_add_9 16 rfl 12 rfl (fun _ => ?_) (fun c => absurd (nI_lt hi hN) c)
  exact LX5_add n1 n2 n3 n4 n5 n6 n7 n8 ha hb hN hi hf hk hk1 hj hj1 hj2 hk2 hh
set_option maxRecDepth 100000 in
set_option maxHeartbeats 4000000 in
theorem MX5_addF {w : gW} {al : Bool} {h h1 : gH} {a b : Nat} {f : Nat → Option Nat} {j : Nat} {h' : gH} (hab : b ≠ a) (ha : h[a]? = some (.inr (.inr (5, [.ref b, .int (nI 8)])))) (hb : h[b]? = some (.inr (.inl (8, f)))) (hs : (∀ j, j < 8 → ∃ (k : Nat) (vs : List Value), f j = some k ∧ b ≠ k ∧ h[k]? = some (.inr (.inr (6, vs))))) (hh : (h.set b (.inr (.inl (8, va_up (gLp shF 7 1 f) 7 (f 0))))).set a (.inr (.inr (5, [.ref b, .int (nI 7)]))) = h1) (kk : G w gT0 al h.length mX5_add 0 0 (gEq h' none) 0 0 h1 16 [.ref a, .ref j, gF] []) : M w gT0 al mX5_add 0 0 h [.ref a, .ref j] (gEq h' none) := by
  refine M.of (L0 := [.ref a, .ref j, gF]) (by decide +kernel) (Nat.le_of_ble_eq_true rfl) rfl ?_
  refine g_aload_n dX5_add_0 rfl 1 rfl rfl ?_
  refine g_get (v := .int (nI 8)) dX5_add_1 4 rfl lX5_18 ha rfl ?_
  refine g_aload_n dX5_add_4 rfl 5 rfl rfl ?_
  refine g_get (v := .ref b) dX5_add_5 8 rfl lX5_9 ha rfl ?_
  refine g_alenq dX5_add_8 9 rfl hb (nI 8) rfl ?_
  refine g_icmp_lt dX5_add_9 16 rfl 12 rfl (fun c => absurd c (by decide)) (fun _ => ?_)
  refine g_aload_n dX5_add_12 rfl 13 rfl rfl ?_
  refine g_cV0 (as := []) (st := []) dX5_add_13 16 rfl kX5_22 ⟨Nat.le_of_ble_eq_true rfl, Nat.le_of_ble_eq_true rfl⟩ (MX5_dropOldest hab ha hb hs hh) rfl rfl ha rfl (Nat.le_of_ble_eq_true rfl) (Nat.le_refl _) (Nat.le_refl _) ?_
  exact kk
set_option maxRecDepth 100000 in
set_option maxHeartbeats 4000000 in
theorem MX5_takeInto {w : gW} {al : Bool} {h : gH} {a b N i : Nat} {f : Nat → Option Nat} {k k1 k2 j j1 j2 : Nat} {g g2 : Int32 → Int32} {a1 a2 a3 a4 a5 a6 b1 b2 b3 b4 b5 b6 : Int32} (n1 : k2 ≠ k) (n2 : k2 ≠ k1) (n3 : k2 ≠ j) (n4 : k2 ≠ j1) (n5 : k2 ≠ j2) (n6 : k ≠ j) (n7 : k2 ≠ a) (n8 : k ≠ a) (ha : h[a]? = some (.inr (.inr (5, [.ref b, .int (nI (i + 1))])))) (hb : h[b]? = some (.inr (.inl (N, f)))) (hN : N < 2 ^ 31) (hi : i < N) (hf : f i = some j) (hk : h[k]? = some (.inr (.inr (6, [.ref 7, .ref k1, .int a1, .int a2, .int a3, .int a4, .int a5, .int a6])))) (hk1 : h[k1]? = some (.inr (.inr (3, [.ref k2])))) (hj : h[j]? = some (.inr (.inr (6, [.ref 7, .ref j1, .int b1, .int b2, .int b3, .int b4, .int b5, .int b6])))) (hj1 : h[j1]? = some (.inr (.inr (3, [.ref j2])))) (hj2 : h[j2]? = some (.inl (9, g))) (hk2 : h[k2]? = some (.inl (9, g2))) {h' : gH} (hh : ((h.set k2 (.inl (9, cpN g 9 0 g2))).set k (.inr (.inr (6, [.ref 7, .ref k1, .int b1, .int b2, .int b3, .int b4, .int b5, .int b6])))).set a (.inr (.inr (5, [.ref b, .int (nI i)]))) = h') : M w gT0 al mX5_takeInto 0 0 h [.ref a, .ref k] (gEq h' (some (.int 1))) := by
  subst hh
  refine M.of (L0 := [.ref a, .ref k, gF]) (by decide +kernel) (Nat.le_of_ble_eq_true rfl) rfl ?_
  refine g_aload_n dX5_takeInto_0 rfl 1 rfl rfl ?_
  refine g_aload_n dX5_takeInto_1 rfl 2 rfl rfl ?_
  refine g_get (v := .int (nI (i + 1))) dX5_takeInto_2 5 rfl lX5_18 ha rfl ?_
  refine g_iconst 1 dX5_takeInto_5 6 rfl (by decide) ?_
  refine g_isub' dX5_takeInto_6 7 rfl (nI i) (nI_pred _) ?_
  refine g_cVv (as := [.int (nI i)]) (st := []) dX5_takeInto_7 10 rfl kX5_25 ⟨Nat.le_of_ble_eq_true rfl, Nat.le_of_ble_eq_true rfl⟩ (MX5_at ha hb hN hi hf) rfl rfl ha rfl (Nat.le_of_ble_eq_true rfl) (Nat.le_refl _) (Nat.le_refl _) ?_
  refine g_astore2 dX5_takeInto_10 11 rfl (by decide) rfl ?_
  refine g_aload_n dX5_takeInto_11 rfl 12 rfl rfl ?_
  refine g_ifnonnull dX5_takeInto_12 17 rfl ?_
  refine g_aload_n dX5_takeInto_17 rfl 18 rfl rfl ?_
  refine g_aload_n dX5_takeInto_18 rfl 19 rfl rfl ?_
  refine g_cV0 (as := [.ref j]) (st := []) dX5_takeInto_19 22 rfl kX5_29 ⟨Nat.le_of_ble_eq_true rfl, Nat.le_of_ble_eq_true rfl⟩ (MX6_copyFrom (h' := ((h.set k2 (.inl (9, cpN g 9 0 g2))).set k (.inr (.inr (6, [.ref 7, .ref k1, .int b1, .int b2, .int b3, .int b4, .int b5, .int b6]))))) n1 n2 n3 n4 n5 n6 hk hk1 hj hj1 hj2 hk2 rfl) rfl rfl hk rfl (Nat.le_of_ble_eq_true rfl) (Nat.le_refl _) (Nat.le_refl _) ?_
  have ha2 : ((h.set k2 (.inl (9, cpN g 9 0 g2))).set k (.inr (.inr (6, [.ref 7, .ref k1, .int b1, .int b2, .int b3, .int b4, .int b5, .int b6]))))[a]? = some (.inr (.inr (5, [.ref b, .int (nI (i + 1))]))) := by rw [gset_ne n8, gset_ne n7]; exact ha
  refine g_aload_n dX5_takeInto_22 rfl 23 rfl rfl ?_
  refine g_dup dX5_takeInto_23 24 rfl rfl ?_
  refine g_get (v := .int (nI (i + 1))) dX5_takeInto_24 27 rfl lX5_18 ha2 rfl ?_
  refine g_iconst 1 dX5_takeInto_27 28 rfl (by decide) ?_
  refine g_isub' dX5_takeInto_28 29 rfl (nI i) (nI_pred _) ?_
  refine g_put dX5_takeInto_29 32 rfl lX5_18 wrX5 rfl rfl rfl rfl ha2 (Nat.le_of_ble_eq_true rfl) rfl ?_
  refine g_iconst 1 dX5_takeInto_32 33 rfl (by decide) ?_
  exact g_ireturn dX5_takeInto_33 rfl rfl (Nat.le_refl _) (Nat.le_refl _) ⟨rfl, rfl⟩
theorem MX5_takeIntoN {w : gW} {al : Bool} {h : gH} {a b k : Nat} (ha : h[a]? = some (.inr (.inr (5, [.ref b, .int (nI 0)])))) : M w gT0 al mX5_takeInto 0 0 h [.ref a, .ref k] (gEq h (some (.int 0))) := by
  refine M.of (L0 := [.ref a, .ref k, gF]) (by decide +kernel) (Nat.le_of_ble_eq_true rfl) rfl ?_
  refine g_aload_n dX5_takeInto_0 rfl 1 rfl rfl ?_
  refine g_aload_n dX5_takeInto_1 rfl 2 rfl rfl ?_
  refine g_get (v := .int (nI 0)) dX5_takeInto_2 5 rfl lX5_18 ha rfl ?_
  refine g_iconst 1 dX5_takeInto_5 6 rfl (by decide) ?_
  refine g_isub' dX5_takeInto_6 7 rfl (-1) (by decide) ?_
  refine g_cVv (as := [.int (-1)]) (st := []) dX5_takeInto_7 10 rfl kX5_25 ⟨Nat.le_of_ble_eq_true rfl, Nat.le_of_ble_eq_true rfl⟩ MX5_atN rfl rfl ha rfl (Nat.le_of_ble_eq_true rfl) (Nat.le_refl _) (Nat.le_refl _) ?_
  refine g_astore2N dX5_takeInto_10 11 rfl (by decide) rfl ?_
  refine g_aload_nN dX5_takeInto_11 rfl 12 rfl rfl ?_
  refine g_ifnonnullN dX5_takeInto_12 15 rfl ?_
  refine g_iconst 0 dX5_takeInto_15 16 rfl (by decide) ?_
  exact g_ireturn dX5_takeInto_16 rfl rfl (Nat.le_refl _) (Nat.le_refl _) ⟨rfl, rfl⟩
set_option maxRecDepth 100000 in
set_option maxHeartbeats 4000000 in
theorem hC_pst {tl rn ki ag co pa me dki dag dco dpa dme nt tnt os og cs mo le se ab : Int32 → Int32} {tn rp so rs wa be pr dso drs dwa dbe dpr nm nb nc nd ns np tnm tnb tnc tnd tns tnp ph kh oh pk pc lf cu cd : Int32} {pf : Nat → Option Nat} {pst kst : Nat → gS} {o : Nat} (ho : o < 8) : (hC tl tn rn rp ki ag co pa me so rs wa be pr dki dag dco dpa dme dso drs dwa dbe dpr nt nm nb nc nd ns np tnt tnm tnb tnc tnd tns tnp pf ph pst kh kst os og oh cs mo le se pk pc lf ab cu cd)[37 + 3 * o]? = some (.inr (.inr (6, [.ref 7, .ref (37 + 3 * o + 1), .int (pst o).2.1, .int (pst o).2.2.1, .int (pst o).2.2.2.1, .int (pst o).2.2.2.2.1, .int (pst o).2.2.2.2.2.1, .int (pst o).2.2.2.2.2.2]))) ∧ (hC tl tn rn rp ki ag co pa me so rs wa be pr dki dag dco dpa dme dso drs dwa dbe dpr nt nm nb nc nd ns np tnt tnm tnb tnc tnd tns tnp pf ph pst kh kst os og oh cs mo le se pk pc lf ab cu cd)[37 + 3 * o + 1]? = some (.inr (.inr (3, [.ref (37 + 3 * o + 2)]))) ∧ (hC tl tn rn rp ki ag co pa me so rs wa be pr dki dag dco dpa dme dso drs dwa dbe dpr nt nm nb nc nd ns np tnt tnm tnb tnc tnd tns tnp pf ph pst kh kst os og oh cs mo le se pk pc lf ab cu cd)[37 + 3 * o + 2]? = some (.inl (9, (pst o).1)) := by
  have ho2 : o = 0 ∨ o = 1 ∨ o = 2 ∨ o = 3 ∨ o = 4 ∨ o = 5 ∨ o = 6 ∨ o = 7 := by omega
  rcases ho2 with rfl | rfl | rfl | rfl | rfl | rfl | rfl | rfl <;> exact ⟨rfl, rfl, rfl⟩
set_option maxRecDepth 100000 in
set_option maxHeartbeats 4000000 in
theorem hC_pup {tl rn ki ag co pa me dki dag dco dpa dme nt tnt os og cs mo le se ab : Int32 → Int32} {tn rp so rs wa be pr dso drs dwa dbe dpr nm nb nc nd ns np tnm tnb tnc tnd tns tnp ph kh oh pk pc lf cu cd : Int32} {pf : Nat → Option Nat} {pst kst : Nat → gS} {o : Nat} (ho : o < 8) (v : gS) : ((hC tl tn rn rp ki ag co pa me so rs wa be pr dki dag dco dpa dme dso drs dwa dbe dpr nt nm nb nc nd ns np tnt tnm tnb tnc tnd tns tnp pf ph pst kh kst os og oh cs mo le se pk pc lf ab cu cd).set (37 + 3 * o + 2) (.inl (9, v.1))).set (37 + 3 * o) (.inr (.inr (6, [.ref 7, .ref (37 + 3 * o + 1), .int v.2.1, .int v.2.2.1, .int v.2.2.2.1, .int v.2.2.2.2.1, .int v.2.2.2.2.2.1, .int v.2.2.2.2.2.2]))) = (hC tl tn rn rp ki ag co pa me so rs wa be pr dki dag dco dpa dme dso drs dwa dbe dpr nt nm nb nc nd ns np tnt tnm tnb tnc tnd tns tnp pf ph (upS pst o v) kh kst os og oh cs mo le se pk pc lf ab cu cd) := by
  have ho2 : o = 0 ∨ o = 1 ∨ o = 2 ∨ o = 3 ∨ o = 4 ∨ o = 5 ∨ o = 6 ∨ o = 7 := by omega
  rcases ho2 with rfl | rfl | rfl | rfl | rfl | rfl | rfl | rfl <;> rfl
set_option maxRecDepth 100000 in
set_option maxHeartbeats 4000000 in
theorem hC_kst {tl rn ki ag co pa me dki dag dco dpa dme nt tnt os og cs mo le se ab : Int32 → Int32} {tn rp so rs wa be pr dso drs dwa dbe dpr nm nb nc nd ns np tnm tnb tnc tnd tns tnp ph kh oh pk pc lf cu cd : Int32} {pf : Nat → Option Nat} {pst kst : Nat → gS} {o : Nat} (ho : o < 2) : (hC tl tn rn rp ki ag co pa me so rs wa be pr dki dag dco dpa dme dso drs dwa dbe dpr nt nm nb nc nd ns np tnt tnm tnb tnc tnd tns tnp pf ph pst kh kst os og oh cs mo le se pk pc lf ab cu cd)[63 + 3 * o]? = some (.inr (.inr (6, [.ref 7, .ref (63 + 3 * o + 1), .int (kst o).2.1, .int (kst o).2.2.1, .int (kst o).2.2.2.1, .int (kst o).2.2.2.2.1, .int (kst o).2.2.2.2.2.1, .int (kst o).2.2.2.2.2.2]))) ∧ (hC tl tn rn rp ki ag co pa me so rs wa be pr dki dag dco dpa dme dso drs dwa dbe dpr nt nm nb nc nd ns np tnt tnm tnb tnc tnd tns tnp pf ph pst kh kst os og oh cs mo le se pk pc lf ab cu cd)[63 + 3 * o + 1]? = some (.inr (.inr (3, [.ref (63 + 3 * o + 2)]))) ∧ (hC tl tn rn rp ki ag co pa me so rs wa be pr dki dag dco dpa dme dso drs dwa dbe dpr nt nm nb nc nd ns np tnt tnm tnb tnc tnd tns tnp pf ph pst kh kst os og oh cs mo le se pk pc lf ab cu cd)[63 + 3 * o + 2]? = some (.inl (9, (kst o).1)) := by
  have ho2 : o = 0 ∨ o = 1 := by omega
  rcases ho2 with rfl | rfl <;> exact ⟨rfl, rfl, rfl⟩
set_option maxRecDepth 100000 in
set_option maxHeartbeats 4000000 in
theorem hC_kup {tl rn ki ag co pa me dki dag dco dpa dme nt tnt os og cs mo le se ab : Int32 → Int32} {tn rp so rs wa be pr dso drs dwa dbe dpr nm nb nc nd ns np tnm tnb tnc tnd tns tnp ph kh oh pk pc lf cu cd : Int32} {pf : Nat → Option Nat} {pst kst : Nat → gS} {o : Nat} (ho : o < 2) (v : gS) : ((hC tl tn rn rp ki ag co pa me so rs wa be pr dki dag dco dpa dme dso drs dwa dbe dpr nt nm nb nc nd ns np tnt tnm tnb tnc tnd tns tnp pf ph pst kh kst os og oh cs mo le se pk pc lf ab cu cd).set (63 + 3 * o + 2) (.inl (9, v.1))).set (63 + 3 * o) (.inr (.inr (6, [.ref 7, .ref (63 + 3 * o + 1), .int v.2.1, .int v.2.2.1, .int v.2.2.2.1, .int v.2.2.2.2.1, .int v.2.2.2.2.2.1, .int v.2.2.2.2.2.2]))) = (hC tl tn rn rp ki ag co pa me so rs wa be pr dki dag dco dpa dme dso drs dwa dbe dpr nt nm nb nc nd ns np tnt tnm tnb tnc tnd tns tnp pf ph pst kh (upS kst o v) os og oh cs mo le se pk pc lf ab cu cd) := by
  have ho2 : o = 0 ∨ o = 1 := by omega
  rcases ho2 with rfl | rfl <;> rfl
set_option maxRecDepth 100000 in
set_option maxHeartbeats 4000000 in
theorem MX5_add_35 {w : gW} {al : Bool} {tl rn ki ag co pa me dki dag dco dpa dme nt tnt os og cs mo le se ab : Int32 → Int32} {tn rp so rs wa be pr dso drs dwa dbe dpr nm nb nc nd ns np tnm tnb tnc tnd tns tnp kh oh pk pc lf cu cd : Int32} {pst kst : Nat → gS} {pg : Nat → Nat} {pn : Nat} (hpn : pn ≤ 8) (hpg : ∀ j, j < 8 → pg j < 8) : M w gT0 al mX5_add 0 0 (hC tl tn rn rp ki ag co pa me so rs wa be pr dki dag dco dpa dme dso drs dwa dbe dpr nt nm nb nc nd ns np tnt tnm tnb tnc tnd tns tnp (shl pg) (nI pn) pst kh kst os og oh cs mo le se pk pc lf ab cu cd) [.ref 35, .ref 29] (gEq (hC tl tn rn rp ki ag co pa me so rs wa be pr dki dag dco dpa dme dso drs dwa dbe dpr nt nm nb nc nd ns np tnt tnm tnb tnc tnd tns tnp (shl (pgA pg pn)) (nI (kNx pn)) (pstA pst pg pn (nt, nm, nb, nc, nd, ns, np)) kh kst os og oh cs mo le se pk pc lf ab cu cd) none) := by
  by_cases h8 : pn = 8
  · subst h8
    have e1 : pgA pg 8 = rot pg := rfl
    have e2 : pstA pst pg 8 (nt, nm, nb, nc, nd, ns, np) = upS pst (rot pg 7) (cpS (nt, nm, nb, nc, nd, ns, np) (pst (rot pg 7))) := rfl
    have e3 : kNx 8 = 8 := rfl
    rw [e1, e2, e3]
    have ho : rot pg 7 < 8 := hpg 0 (by omega)
    obtain ⟨q1, q2, q3⟩ := hC_pst (tl := tl) (tn := tn) (rn := rn) (rp := rp) (ki := ki) (ag := ag) (co := co) (pa := pa) (me := me) (so := so) (rs := rs) (wa := wa) (be := be) (pr := pr) (dki := dki) (dag := dag) (dco := dco) (dpa := dpa) (dme := dme) (dso := dso) (drs := drs) (dwa := dwa) (dbe := dbe) (dpr := dpr) (nt := nt) (nm := nm) (nb := nb) (nc := nc) (nd := nd) (ns := ns) (np := np) (tnt := tnt) (tnm := tnm) (tnb := tnb) (tnc := tnc) (tnd := tnd) (tns := tns) (tnp := tnp) (pf := shl (rot pg)) (ph := nI 7) (pst := pst) (kh := kh) (kst := kst) (os := os) (og := og) (oh := oh) (cs := cs) (mo := mo) (le := le) (se := se) (pk := pk) (pc := pc) (lf := lf) (ab := ab) (cu := cu) (cd := cd) ho
    refine MX5_addF (b := 36) (f := shl pg) (h1 := (hC tl tn rn rp ki ag co pa me so rs wa be pr dki dag dco dpa dme dso drs dwa dbe dpr nt nm nb nc nd ns np tnt tnm tnb tnc tnd tns tnp (shl (rot pg)) (nI 7) pst kh kst os og oh cs mo le se pk pc lf ab cu cd)) (by decide) rfl rfl (fun j hj => ?_) ?_ ?_
    · obtain ⟨r1, _, _⟩ := hC_pst (tl := tl) (tn := tn) (rn := rn) (rp := rp) (ki := ki) (ag := ag) (co := co) (pa := pa) (me := me) (so := so) (rs := rs) (wa := wa) (be := be) (pr := pr) (dki := dki) (dag := dag) (dco := dco) (dpa := dpa) (dme := dme) (dso := dso) (drs := drs) (dwa := dwa) (dbe := dbe) (dpr := dpr) (nt := nt) (nm := nm) (nb := nb) (nc := nc) (nd := nd) (ns := ns) (np := np) (tnt := tnt) (tnm := tnm) (tnb := tnb) (tnc := tnc) (tnd := tnd) (tns := tns) (tnp := tnp) (pf := shl pg) (ph := nI 8) (pst := pst) (kh := kh) (kst := kst) (os := os) (og := og) (oh := oh) (cs := cs) (mo := mo) (le := le) (se := se) (pk := pk) (pc := pc) (lf := lf) (ab := ab) (cu := cu) (cd := cd) (hpg j hj)
      exact ⟨_, _, shl_at hj, by omega, r1⟩
    · rw [shl_rot]
      rfl
    · refine LX5_add (b := 36) (N := 8) (i := 7) (f := shl (rot pg)) (k := 37 + 3 * rot pg 7) (j := 29) (j1 := 30) (j2 := 31) (g := nt) (by omega) (by omega) (by omega) (by omega) (by omega) (by omega) (by omega) (by omega) rfl rfl (by decide) (by omega) (shl_at (by omega)) q1 q2 rfl rfl rfl q3 ?_
      rw [show (cpN nt 9 0 (pst (rot pg 7)).1) = (cpS (nt, nm, nb, nc, nd, ns, np) (pst (rot pg 7))).1 from rfl]
      exact (congrArg (fun z : gH => z.set 35 (.inr (.inr (5, [.ref 36, .int (nI 8)])))) (hC_pup ho (cpS (nt, nm, nb, nc, nd, ns, np) (pst (rot pg 7))))).trans rfl
  · have hlt : pn < 8 := by omega
    have e1 : pgA pg pn = pg := if_neg h8
    have e3 : kNx pn = pn + 1 := if_neg h8
    have e2 : pstA pst pg pn (nt, nm, nb, nc, nd, ns, np) = upS pst (pg pn) (cpS (nt, nm, nb, nc, nd, ns, np) (pst (pg pn))) := by unfold pstA; rw [e1, e3]; rfl
    rw [e1, e2, e3]
    have ho : pg pn < 8 := hpg pn hlt
    obtain ⟨q1, q2, q3⟩ := hC_pst (tl := tl) (tn := tn) (rn := rn) (rp := rp) (ki := ki) (ag := ag) (co := co) (pa := pa) (me := me) (so := so) (rs := rs) (wa := wa) (be := be) (pr := pr) (dki := dki) (dag := dag) (dco := dco) (dpa := dpa) (dme := dme) (dso := dso) (drs := drs) (dwa := dwa) (dbe := dbe) (dpr := dpr) (nt := nt) (nm := nm) (nb := nb) (nc := nc) (nd := nd) (ns := ns) (np := np) (tnt := tnt) (tnm := tnm) (tnb := tnb) (tnc := tnc) (tnd := tnd) (tns := tns) (tnp := tnp) (pf := shl pg) (ph := nI pn) (pst := pst) (kh := kh) (kst := kst) (os := os) (og := og) (oh := oh) (cs := cs) (mo := mo) (le := le) (se := se) (pk := pk) (pc := pc) (lf := lf) (ab := ab) (cu := cu) (cd := cd) ho
    refine MX5_add (b := 36) (N := 8) (i := pn) (f := shl pg) (k := 37 + 3 * pg pn) (j := 29) (j1 := 30) (j2 := 31) (g := nt) (by omega) (by omega) (by omega) (by omega) (by omega) (by omega) (by omega) (by omega) rfl rfl (by decide) hlt (shl_at hlt) q1 q2 rfl rfl rfl q3 ?_
    exact (congrArg (fun z : gH => z.set 35 (.inr (.inr (5, [.ref 36, .int (nI (pn + 1))])))) (hC_pup ho (cpS (nt, nm, nb, nc, nd, ns, np) (pst (pg pn))))).trans rfl
set_option maxRecDepth 100000 in
set_option maxHeartbeats 4000000 in
theorem MX5_takeInto_35 {w : gW} {al : Bool} {tl rn ki ag co pa me dki dag dco dpa dme nt tnt os og cs mo le se ab : Int32 → Int32} {tn rp so rs wa be pr dso drs dwa dbe dpr nm nb nc nd ns np tnm tnb tnc tnd tns tnp kh oh pk pc lf cu cd : Int32} {pst kst : Nat → gS} {pg : Nat → Nat} {pn : Nat} (hpn : pn < 8) (hpg : ∀ j, j < 8 → pg j < 8) : M w gT0 al mX5_takeInto 0 0 (hC tl tn rn rp ki ag co pa me so rs wa be pr dki dag dco dpa dme dso drs dwa dbe dpr nt nm nb nc nd ns np tnt tnm tnb tnc tnd tns tnp (shl pg) (nI (pn + 1)) pst kh kst os og oh cs mo le se pk pc lf ab cu cd) [.ref 35, .ref 29] (gEq (hC tl tn rn rp ki ag co pa me so rs wa be pr dki dag dco dpa dme dso drs dwa dbe dpr (cpN (pst (pg pn)).1 9 0 nt) ((pst (pg pn)).2.1) ((pst (pg pn)).2.2.1) ((pst (pg pn)).2.2.2.1) ((pst (pg pn)).2.2.2.2.1) ((pst (pg pn)).2.2.2.2.2.1) ((pst (pg pn)).2.2.2.2.2.2) tnt tnm tnb tnc tnd tns tnp (shl pg) (nI pn) pst kh kst os og oh cs mo le se pk pc lf ab cu cd) (some (.int 1))) := by
  have ho : (pg pn) < 8 := hpg pn hpn
  obtain ⟨q1, q2, q3⟩ := hC_pst (tl := tl) (tn := tn) (rn := rn) (rp := rp) (ki := ki) (ag := ag) (co := co) (pa := pa) (me := me) (so := so) (rs := rs) (wa := wa) (be := be) (pr := pr) (dki := dki) (dag := dag) (dco := dco) (dpa := dpa) (dme := dme) (dso := dso) (drs := drs) (dwa := dwa) (dbe := dbe) (dpr := dpr) (nt := nt) (nm := nm) (nb := nb) (nc := nc) (nd := nd) (ns := ns) (np := np) (tnt := tnt) (tnm := tnm) (tnb := tnb) (tnc := tnc) (tnd := tnd) (tns := tns) (tnp := tnp) (pf := shl pg) (ph := nI (pn + 1)) (pst := pst) (kh := kh) (kst := kst) (os := os) (og := og) (oh := oh) (cs := cs) (mo := mo) (le := le) (se := se) (pk := pk) (pc := pc) (lf := lf) (ab := ab) (cu := cu) (cd := cd) ho
  exact MX5_takeInto (b := 36) (N := 8) (i := pn) (f := shl pg) (k := 29) (k1 := 30) (k2 := 31) (j := 37 + 3 * (pg pn)) (g2 := nt) (by omega) (by omega) (by omega) (by omega) (by omega) (by omega) (by omega) (by omega) rfl rfl (by decide) hpn (shl_at hpn) rfl rfl q1 q2 q3 rfl rfl
theorem kf_at {pn : Nat} (h : pn < 2) : (fun j => if j = 0 then some 63 else some 66 : Nat → Option Nat) pn = some (63 + 3 * pn) := by
  have h2 : pn = 0 ∨ pn = 1 := by omega
  rcases h2 with rfl | rfl <;> rfl
set_option maxRecDepth 100000 in
set_option maxHeartbeats 4000000 in
theorem MX5_takeInto_61 {w : gW} {al : Bool} {tl rn ki ag co pa me dki dag dco dpa dme nt tnt os og cs mo le se ab : Int32 → Int32} {tn rp so rs wa be pr dso drs dwa dbe dpr nm nb nc nd ns np tnm tnb tnc tnd tns tnp ph oh pk pc lf cu cd : Int32} {pf : Nat → Option Nat} {pst kst : Nat → gS} {pn : Nat} (hpn : pn < 2) : M w gT0 al mX5_takeInto 0 0 (hC tl tn rn rp ki ag co pa me so rs wa be pr dki dag dco dpa dme dso drs dwa dbe dpr nt nm nb nc nd ns np tnt tnm tnb tnc tnd tns tnp pf ph pst (nI (pn + 1)) kst os og oh cs mo le se pk pc lf ab cu cd) [.ref 61, .ref 29] (gEq (hC tl tn rn rp ki ag co pa me so rs wa be pr dki dag dco dpa dme dso drs dwa dbe dpr (cpN (kst pn).1 9 0 nt) ((kst pn).2.1) ((kst pn).2.2.1) ((kst pn).2.2.2.1) ((kst pn).2.2.2.2.1) ((kst pn).2.2.2.2.2.1) ((kst pn).2.2.2.2.2.2) tnt tnm tnb tnc tnd tns tnp pf ph pst (nI pn) kst os og oh cs mo le se pk pc lf ab cu cd) (some (.int 1))) := by
  have ho : pn < 2 := hpn
  obtain ⟨q1, q2, q3⟩ := hC_kst (tl := tl) (tn := tn) (rn := rn) (rp := rp) (ki := ki) (ag := ag) (co := co) (pa := pa) (me := me) (so := so) (rs := rs) (wa := wa) (be := be) (pr := pr) (dki := dki) (dag := dag) (dco := dco) (dpa := dpa) (dme := dme) (dso := dso) (drs := drs) (dwa := dwa) (dbe := dbe) (dpr := dpr) (nt := nt) (nm := nm) (nb := nb) (nc := nc) (nd := nd) (ns := ns) (np := np) (tnt := tnt) (tnm := tnm) (tnb := tnb) (tnc := tnc) (tnd := tnd) (tns := tns) (tnp := tnp) (pf := pf) (ph := ph) (pst := pst) (kh := nI (pn + 1)) (kst := kst) (os := os) (og := og) (oh := oh) (cs := cs) (mo := mo) (le := le) (se := se) (pk := pk) (pc := pc) (lf := lf) (ab := ab) (cu := cu) (cd := cd) ho
  exact MX5_takeInto (b := 62) (N := 2) (i := pn) (f := (fun j => if j = 0 then some 63 else some 66)) (k := 29) (k1 := 30) (k2 := 31) (j := 63 + 3 * pn) (g2 := nt) (by omega) (by omega) (by omega) (by omega) (by omega) (by omega) (by omega) (by omega) rfl rfl (by decide) hpn (kf_at hpn) rfl rfl q1 q2 q3 rfl rfl
set_option maxRecDepth 100000 in
set_option maxHeartbeats 4000000 in
theorem MX5_add_61 {w : gW} {al : Bool} {tl rn ki ag co pa me dki dag dco dpa dme nt tnt os og cs mo le se ab : Int32 → Int32} {tn rp so rs wa be pr dso drs dwa dbe dpr nm nb nc nd ns np tnm tnb tnc tnd tns tnp ph oh pk pc lf cu cd : Int32} {pf : Nat → Option Nat} {pst kst : Nat → gS} {pn : Nat} (hpn : pn < 2) : M w gT0 al mX5_add 0 0 (hC tl tn rn rp ki ag co pa me so rs wa be pr dki dag dco dpa dme dso drs dwa dbe dpr nt nm nb nc nd ns np tnt tnm tnb tnc tnd tns tnp pf ph pst (nI pn) kst os og oh cs mo le se pk pc lf ab cu cd) [.ref 61, .ref 29] (gEq (hC tl tn rn rp ki ag co pa me so rs wa be pr dki dag dco dpa dme dso drs dwa dbe dpr nt nm nb nc nd ns np tnt tnm tnb tnc tnd tns tnp pf ph pst (nI (pn + 1)) (upS kst pn (cpS (nt, nm, nb, nc, nd, ns, np) (kst pn))) os og oh cs mo le se pk pc lf ab cu cd) none) := by
  obtain ⟨q1, q2, q3⟩ := hC_kst (tl := tl) (tn := tn) (rn := rn) (rp := rp) (ki := ki) (ag := ag) (co := co) (pa := pa) (me := me) (so := so) (rs := rs) (wa := wa) (be := be) (pr := pr) (dki := dki) (dag := dag) (dco := dco) (dpa := dpa) (dme := dme) (dso := dso) (drs := drs) (dwa := dwa) (dbe := dbe) (dpr := dpr) (nt := nt) (nm := nm) (nb := nb) (nc := nc) (nd := nd) (ns := ns) (np := np) (tnt := tnt) (tnm := tnm) (tnb := tnb) (tnc := tnc) (tnd := tnd) (tns := tns) (tnp := tnp) (pf := pf) (ph := ph) (pst := pst) (kh := nI pn) (kst := kst) (os := os) (og := og) (oh := oh) (cs := cs) (mo := mo) (le := le) (se := se) (pk := pk) (pc := pc) (lf := lf) (ab := ab) (cu := cu) (cd := cd) hpn
  refine MX5_add (b := 62) (N := 2) (i := pn) (f := (fun j => if j = 0 then some 63 else some 66)) (k := 63 + 3 * pn) (j := 29) (j1 := 30) (j2 := 31) (g := nt) (by omega) (by omega) (by omega) (by omega) (by omega) (by omega) (by omega) (by omega) rfl rfl (by decide) hpn (kf_at hpn) q1 q2 rfl rfl rfl q3 ?_
  exact (congrArg (fun z : gH => z.set 61 (.inr (.inr (5, [.ref 62, .int (nI (pn + 1))])))) (hC_kup hpn (cpS (nt, nm, nb, nc, nd, ns, np) (kst pn)))).trans rfl
set_option maxRecDepth 100000 in
set_option maxHeartbeats 4000000 in
theorem MX6_copyFrom_32 {w : gW} {al : Bool} {tl rn ki ag co pa me dki dag dco dpa dme nt tnt os og cs mo le se ab : Int32 → Int32} {tn rp so rs wa be pr dso drs dwa dbe dpr nm nb nc nd ns np tnm tnb tnc tnd tns tnp ph kh oh pk pc lf cu cd : Int32} {pf : Nat → Option Nat} {pst kst : Nat → gS} : M w gT0 al mX6_copyFrom 0 0 (hC tl tn rn rp ki ag co pa me so rs wa be pr dki dag dco dpa dme dso drs dwa dbe dpr nt nm nb nc nd ns np tnt tnm tnb tnc tnd tns tnp pf ph pst kh kst os og oh cs mo le se pk pc lf ab cu cd) [.ref 32, .ref 29] (gEq (hC tl tn rn rp ki ag co pa me so rs wa be pr dki dag dco dpa dme dso drs dwa dbe dpr nt nm nb nc nd ns np (cpN nt 9 0 tnt) nm nb nc nd ns np pf ph pst kh kst os og oh cs mo le se pk pc lf ab cu cd) none) := MX6_copyFrom (k := 32) (k1 := 33) (k2 := 34) (j := 29) (j1 := 30) (j2 := 31) (by decide) (by decide) (by decide) (by decide) (by decide) (by decide) rfl rfl rfl rfl rfl rfl rfl
