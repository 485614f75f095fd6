/-! the class: its heap -/
abbrev gS : Type := (Int32 → Int32) × Int32 × Int32 × Int32 × Int32 × Int32 × Int32
def hC (tl : Int32 → Int32) (tn : Int32) (rn : Int32 → Int32) (rp : Int32) (ki : Int32 → Int32) (ag : Int32 → Int32) (co : Int32 → Int32) (pa : Int32 → Int32) (me : Int32 → Int32) (so : Int32) (rs : Int32) (wa : Int32) (be : Int32) (pr : Int32) (dki : Int32 → Int32) (dag : Int32 → Int32) (dco : Int32 → Int32) (dpa : Int32 → Int32) (dme : Int32 → Int32) (dso : Int32) (drs : Int32) (dwa : Int32) (dbe : Int32) (dpr : Int32) (nt : Int32 → Int32) (nm : Int32) (nb : Int32) (nc : Int32) (nd : Int32) (ns : Int32) (np : Int32) (tnt : Int32 → Int32) (tnm : Int32) (tnb : Int32) (tnc : Int32) (tnd : Int32) (tns : Int32) (tnp : Int32) (pf : Nat → Option Nat) (ph : Int32) (pst : Nat → gS) (kh : Int32) (kst : Nat → gS) (os : Int32 → Int32) (og : Int32 → Int32) (oh : Int32) (cs : Int32 → Int32) (mo : Int32 → Int32) (le : Int32 → Int32) (se : Int32 → Int32) (pk : Int32) (pc : Int32) (lf : Int32) (ab : Int32 → Int32) (cu : Int32) (cd : Int32) : gH :=
  [.inr (.inr (9, [.ref 1, .ref 4, .ref 7, .ref 18, .ref 29, .ref 32, .ref 35, .ref 61, .ref 69, .ref 74, .ref 83])),
   .inr (.inr (7, [.ref 2, .int tn])),
   .inr (.inr (3, [.ref 3])),
   .inl (200, tl),
   .inr (.inr (1, [.ref 1, .ref 5, .int rp])),
   .inr (.inr (3, [.ref 6])),
   .inl (4, rn),
   .inr (.inr (2, [.ref 8, .ref 10, .ref 12, .ref 14, .ref 16, .int so, .int rs, .int wa, .int be, .int pr])),
   .inr (.inr (3, [.ref 9])),
   .inl (9, ki),
   .inr (.inr (3, [.ref 11])),
   .inl (9, ag),
   .inr (.inr (3, [.ref 13])),
   .inl (9, co),
   .inr (.inr (3, [.ref 15])),
   .inl (9, pa),
   .inr (.inr (3, [.ref 17])),
   .inl (6, me),
   .inr (.inr (2, [.ref 19, .ref 21, .ref 23, .ref 25, .ref 27, .int dso, .int drs, .int dwa, .int dbe, .int dpr])),
   .inr (.inr (3, [.ref 20])),
   .inl (9, dki),
   .inr (.inr (3, [.ref 22])),
   .inl (9, dag),
   .inr (.inr (3, [.ref 24])),
   .inl (9, dco),
   .inr (.inr (3, [.ref 26])),
   .inl (9, dpa),
   .inr (.inr (3, [.ref 28])),
   .inl (6, dme),
   .inr (.inr (6, [.ref 7, .ref 30, .int nm, .int nb, .int nc, .int nd, .int ns, .int np])),
   .inr (.inr (3, [.ref 31])),
   .inl (9, nt),
   .inr (.inr (6, [.ref 7, .ref 33, .int tnm, .int tnb, .int tnc, .int tnd, .int tns, .int tnp])),
   .inr (.inr (3, [.ref 34])),
   .inl (9, tnt),
   .inr (.inr (5, [.ref 36, .int ph])),
   .inr (.inl (8, pf)),
   .inr (.inr (6, [.ref 7, .ref 38, .int (pst 0).2.1, .int (pst 0).2.2.1, .int (pst 0).2.2.2.1, .int (pst 0).2.2.2.2.1, .int (pst 0).2.2.2.2.2.1, .int (pst 0).2.2.2.2.2.2])),
   .inr (.inr (3, [.ref 39])),
   .inl (9, (pst 0).1),
   .inr (.inr (6, [.ref 7, .ref 41, .int (pst 1).2.1, .int (pst 1).2.2.1, .int (pst 1).2.2.2.1, .int (pst 1).2.2.2.2.1, .int (pst 1).2.2.2.2.2.1, .int (pst 1).2.2.2.2.2.2])),
   .inr (.inr (3, [.ref 42])),
   .inl (9, (pst 1).1),
   .inr (.inr (6, [.ref 7, .ref 44, .int (pst 2).2.1, .int (pst 2).2.2.1, .int (pst 2).2.2.2.1, .int (pst 2).2.2.2.2.1, .int (pst 2).2.2.2.2.2.1, .int (pst 2).2.2.2.2.2.2])),
   .inr (.inr (3, [.ref 45])),
   .inl (9, (pst 2).1),
   .inr (.inr (6, [.ref 7, .ref 47, .int (pst 3).2.1, .int (pst 3).2.2.1, .int (pst 3).2.2.2.1, .int (pst 3).2.2.2.2.1, .int (pst 3).2.2.2.2.2.1, .int (pst 3).2.2.2.2.2.2])),
   .inr (.inr (3, [.ref 48])),
   .inl (9, (pst 3).1),
   .inr (.inr (6, [.ref 7, .ref 50, .int (pst 4).2.1, .int (pst 4).2.2.1, .int (pst 4).2.2.2.1, .int (pst 4).2.2.2.2.1, .int (pst 4).2.2.2.2.2.1, .int (pst 4).2.2.2.2.2.2])),
   .inr (.inr (3, [.ref 51])),
   .inl (9, (pst 4).1),
   .inr (.inr (6, [.ref 7, .ref 53, .int (pst 5).2.1, .int (pst 5).2.2.1, .int (pst 5).2.2.2.1, .int (pst 5).2.2.2.2.1, .int (pst 5).2.2.2.2.2.1, .int (pst 5).2.2.2.2.2.2])),
   .inr (.inr (3, [.ref 54])),
   .inl (9, (pst 5).1),
   .inr (.inr (6, [.ref 7, .ref 56, .int (pst 6).2.1, .int (pst 6).2.2.1, .int (pst 6).2.2.2.1, .int (pst 6).2.2.2.2.1, .int (pst 6).2.2.2.2.2.1, .int (pst 6).2.2.2.2.2.2])),
   .inr (.inr (3, [.ref 57])),
   .inl (9, (pst 6).1),
   .inr (.inr (6, [.ref 7, .ref 59, .int (pst 7).2.1, .int (pst 7).2.2.1, .int (pst 7).2.2.2.1, .int (pst 7).2.2.2.2.1, .int (pst 7).2.2.2.2.2.1, .int (pst 7).2.2.2.2.2.2])),
   .inr (.inr (3, [.ref 60])),
   .inl (9, (pst 7).1),
   .inr (.inr (5, [.ref 62, .int kh])),
   .inr (.inl (2, (fun j => if j = 0 then some 63 else some 66))),
   .inr (.inr (6, [.ref 7, .ref 64, .int (kst 0).2.1, .int (kst 0).2.2.1, .int (kst 0).2.2.2.1, .int (kst 0).2.2.2.2.1, .int (kst 0).2.2.2.2.2.1, .int (kst 0).2.2.2.2.2.2])),
   .inr (.inr (3, [.ref 65])),
   .inl (9, (kst 0).1),
   .inr (.inr (6, [.ref 7, .ref 67, .int (kst 1).2.1, .int (kst 1).2.2.1, .int (kst 1).2.2.2.1, .int (kst 1).2.2.2.2.1, .int (kst 1).2.2.2.2.2.1, .int (kst 1).2.2.2.2.2.2])),
   .inr (.inr (3, [.ref 68])),
   .inl (9, (kst 1).1),
   .inr (.inr (8, [.ref 70, .ref 72, .int oh])),
   .inr (.inr (3, [.ref 71])),
   .inl (5, os),
   .inr (.inr (3, [.ref 73])),
   .inl (5, og),
   .inr (.inr (4, [.ref 7, .ref 29, .ref 75, .ref 77, .ref 79, .ref 81, .int pk, .int pc, .int lf])),
   .inr (.inr (3, [.ref 76])),
   .inl (512, cs),
   .inr (.inr (3, [.ref 78])),
   .inl (512, mo),
   .inr (.inr (3, [.ref 80])),
   .inl (512, le),
   .inr (.inr (3, [.ref 82])),
   .inl (892, se),
   .inr (.inr (0, [.ref 29, .ref 84, .int cu, .int cd])),
   .inr (.inr (3, [.ref 85])),
   .inl (512, ab)]
/-- a row: what stands at a place; 0 outside -/
def rAt (N : Nat) (f : Int32 → Int32) (i : Int32) : Int32 := if i < 0 then 0 else if nI N ≤ i then 0 else f i
def rPut (N : Nat) (f : Int32 → Int32) (i v : Int32) : Int32 → Int32 := if i < 0 then f else if nI N ≤ i then f else gup f i v
theorem vp_of {i : Int32} {N : Nat} (hN : N < 2 ^ 31) (h1 : ¬ i < 0) (h2 : ¬ nI N ≤ i) : vp_in i N := by
  obtain ⟨j, hj, rfl⟩ := nI_of h1
  refine vp_in_nI ?_ hN
  rcases Nat.lt_or_ge j N with q | q
  · exact q
  · exact absurd (nI_le q hj) h2
theorem MX3_at {w : gW} {al : Bool} {h : gH} {k j N : Nat} {f : Int32 → Int32} (hk : h[k]? = some (.inr (.inr (3, [.ref j])))) (hj : h[j]? = some (.inl (N, f))) (hN : N < 2 ^ 31) (i : Int32) : M w gT0 al mX3_at 0 0 h [.ref k, .int i] (gEq h (some (.int (rAt N f i)))) := by
  refine M.of (L0 := [.ref k, .int i]) (by decide +kernel) (Nat.le_of_ble_eq_true rfl) rfl ?_
  refine g_iload_n dX3_at_0 rfl 1 rfl rfl ?_
  refine g_if_lt dX3_at_1 22 rfl 4 rfl (fun c1 => ?_) (fun c1 => ?_)
  · refine g_iconst 0 dX3_at_22 23 rfl (by decide) ?_
    refine g_ireturn dX3_at_23 rfl rfl (Nat.le_refl _) (Nat.le_refl _) ?_
    have e : rAt N f i = 0 := by rw [rAt, if_pos c1]
    rw [e]
    exact ⟨rfl, rfl⟩
  · refine g_iload_n dX3_at_4 rfl 5 rfl rfl ?_
    refine g_aload_n dX3_at_5 rfl 6 rfl rfl ?_
    refine g_get (v := .ref j) dX3_at_6 9 rfl lX3_7 hk rfl ?_
    refine g_alen dX3_at_9 10 rfl hj (nI N) rfl ?_
    refine g_icmp_ge dX3_at_10 22 rfl 13 rfl (fun c2 => ?_) (fun c2 => ?_)
    · refine g_iconst 0 dX3_at_22 23 rfl (by decide) ?_
      refine g_ireturn dX3_at_23 rfl rfl (Nat.le_refl _) (Nat.le_refl _) ?_
      have e : rAt N f i = 0 := by rw [rAt, if_neg c1, if_pos c2]
      rw [e]
      exact ⟨rfl, rfl⟩
    · refine g_aload_n dX3_at_13 rfl 14 rfl rfl ?_
      refine g_get (v := .ref j) dX3_at_14 17 rfl lX3_7 hk rfl ?_
      refine g_iload_n dX3_at_17 rfl 18 rfl rfl ?_
      refine g_iaload (N := N) dX3_at_18 19 rfl hj (vp_of hN c1 c2) ?_
      refine g_goto dX3_at_19 23 rfl ?_
      refine g_ireturn dX3_at_23 rfl rfl (Nat.le_refl _) (Nat.le_refl _) ?_
      have e : rAt N f i = (f i) := by rw [rAt, if_neg c1, if_neg c2]
      rw [e]
      exact ⟨rfl, rfl⟩
theorem gset_self {h : gH} {j : Nat} {e : gE} (hj : h[j]? = some e) : h.set j e = h := by
  apply List.ext_getElem?
  intro i
  by_cases hi : j = i
  · subst hi; rw [List.getElem?_set_self (List.getElem?_eq_some_iff.mp hj).1, hj]
  · rw [List.getElem?_set_ne hi]
theorem MX3_put0 {w : gW} {al : Bool} {h : gH} {k j N : Nat} {f : Int32 → Int32} (hk : h[k]? = some (.inr (.inr (3, [.ref j])))) (hj : h[j]? = some (.inl (N, f))) (hN : N < 2 ^ 31) (i v : Int32) : M w gT0 al mX3_put 0 0 h [.ref k, .int i, .int v] (gEq (h.set j (.inl (N, rPut N f i v))) none) := by
  refine M.of (L0 := [.ref k, .int i, .int v]) (by decide +kernel) (Nat.le_of_ble_eq_true rfl) rfl ?_
  refine g_iload_n dX3_put_0 rfl 1 rfl rfl ?_
  refine g_if_lt dX3_put_1 20 rfl 4 rfl (fun c1 => ?_) (fun c1 => ?_)
  · refine g_return dX3_put_20 rfl (Nat.le_refl _) (Nat.le_refl _) ?_
    have e : rPut N f i v = f := by rw [rPut, if_pos c1]
    rw [e]
    exact ⟨(gset_self hj).symm, rfl⟩
  · refine g_iload_n dX3_put_4 rfl 5 rfl rfl ?_
    refine g_aload_n dX3_put_5 rfl 6 rfl rfl ?_
    refine g_get (v := .ref j) dX3_put_6 9 rfl lX3_7 hk rfl ?_
    refine g_alen dX3_put_9 10 rfl hj (nI N) rfl ?_
    refine g_icmp_ge dX3_put_10 20 rfl 13 rfl (fun c2 => ?_) (fun c2 => ?_)
    · refine g_return dX3_put_20 rfl (Nat.le_refl _) (Nat.le_refl _) ?_
      have e : rPut N f i v = f := by rw [rPut, if_neg c1, if_pos c2]
      rw [e]
      exact ⟨(gset_self hj).symm, rfl⟩
    · refine g_aload_n dX3_put_13 rfl 14 rfl rfl ?_
      refine g_get (v := .ref j) dX3_put_14 17 rfl lX3_7 hk rfl ?_
      refine g_iload_n dX3_put_17 rfl 18 rfl rfl ?_
      refine g_iload_n dX3_put_18 rfl 19 rfl rfl ?_
      refine g_iastore (N := N) dX3_put_19 20 rfl hj hN (vp_of hN c1 c2) (h' := (h.set j (.inl (N, gup f i v)))) rfl ?_
      refine g_return dX3_put_20 rfl (Nat.le_refl _) (Nat.le_refl _) ?_
      have e : rPut N f i v = gup f i v := by rw [rPut, if_neg c1, if_neg c2]
      rw [e]
      exact ⟨rfl, rfl⟩
theorem MX3_put {w : gW} {al : Bool} {h : gH} {k j N : Nat} {f : Int32 → Int32} (hk : h[k]? = some (.inr (.inr (3, [.ref j])))) (hj : h[j]? = some (.inl (N, f))) (hN : N < 2 ^ 31) (i v : Int32) {h' : gH} (hh : h.set j (.inl (N, rPut N f i v)) = h') : M w gT0 al mX3_put 0 0 h [.ref k, .int i, .int v] (gEq h' none) := by
  subst hh
  exact MX3_put0 hk hj hN i v
theorem rAt_in {N i : Nat} {f : Int32 → Int32} (hi : i < N) (hN : N < 2 ^ 31) : rAt N f (nI i) = f (nI i) := by rw [rAt, if_neg (nI_pos (by omega)), if_neg (nI_ge hi hN)]
theorem rPut_in {N i : Nat} {f : Int32 → Int32} {v : Int32} (hi : i < N) (hN : N < 2 ^ 31) : rPut N f (nI i) v = gup f (nI i) v := by rw [rPut, if_neg (nI_pos (by omega)), if_neg (nI_ge hi hN)]
theorem MX3_atN {w : gW} {al : Bool} {h : gH} {k j N : Nat} {f : Int32 → Int32} (hk : h[k]? = some (.inr (.inr (3, [.ref j])))) (hj : h[j]? = some (.inl (N, f))) (hN : N < 2 ^ 31) (i : Nat) (hi : i < N) : M w gT0 al mX3_at 0 0 h [.ref k, .int (nI i)] (gEq h (some (.int (f (nI i))))) := by
  have q := MX3_at (w := w) (al := al) hk hj hN (nI i)
  rw [rAt_in hi hN] at q
  exact q
theorem MX3_atV {w : gW} {al : Bool} {h : gH} {k j N : Nat} {f : Int32 → Int32} (hk : h[k]? = some (.inr (.inr (3, [.ref j])))) (hj : h[j]? = some (.inl (N, f))) (hN : N < 2 ^ 31) (i : Nat) (hi : i < N) (v : Int32) (hv : f (nI i) = v) : M w gT0 al mX3_at 0 0 h [.ref k, .int (nI i)] (gEq h (some (.int v))) := by
  subst hv
  exact MX3_atN hk hj hN i hi
theorem MX3_putN {w : gW} {al : Bool} {h : gH} {k j N : Nat} {f : Int32 → Int32} (hk : h[k]? = some (.inr (.inr (3, [.ref j])))) (hj : h[j]? = some (.inl (N, f))) (hN : N < 2 ^ 31) (i : Nat) (hi : i < N) (v : Int32) {h' : gH} (hh : h.set j (.inl (N, gup f (nI i) v)) = h') : M w gT0 al mX3_put 0 0 h [.ref k, .int (nI i), .int v] (gEq h' none) := MX3_put hk hj hN (nI i) v (by rw [rPut_in hi hN]; exact hh)
def rFill (v : Int32) (d i : Nat) (f : Int32 → Int32) : Int32 → Int32 := gLp (fun i f => gup f (nI i) v) d i f
theorem gset_set {h : gH} {j : Nat} {a b : gE} : (h.set j a).set j b = h.set j b := List.set_set ..
theorem gset_get {h : gH} {j : Nat} {a b : gE} (hj : h[j]? = some a) : (h.set j b)[j]? = some b := List.getElem?_set_self (List.getElem?_eq_some_iff.mp hj).1
theorem gset_ne {h : gH} {j k : Nat} {b : gE} (hn : j ≠ k) : (h.set j b)[k]? = h[k]? := List.getElem?_set_ne hn
theorem LX3_fill {w : gW} {al : Bool} {k j N n : Nat} {P : gP} {v : Int32} (hn : j ≠ k) (hN : N < 2 ^ 31) : ∀ (d i : Nat) (f : Int32 → Int32) (h : gH), h[k]? = some (.inr (.inr (3, [.ref j]))) → h[j]? = some (.inl (N, f)) → i + d = N → G w gT0 al n mX3_fill 0 0 P 0 0 (h.set j (.inl (N, rFill v d i f))) 24 [.ref k, .int v, .int (nI N)] [] → G w gT0 al n mX3_fill 0 0 P 0 0 h 2 [.ref k, .int v, .int (nI i)] []
  | 0, i, f, h, hk, hj, hi, kk => by
    have hN : i = N := by omega
    rw [hN]
    refine g_iload_n dX3_fill_2 rfl 3 rfl rfl ?_
    refine g_aload_n dX3_fill_3 rfl 4 rfl rfl ?_
    refine g_get (v := .ref j) dX3_fill_4 7 rfl lX3_7 hk rfl ?_
    refine g_alen dX3_fill_7 8 rfl hj (nI N) rfl ?_
    refine g_icmp_ge dX3_fill_8 24 rfl 11 rfl (fun _ => ?_) (fun c => absurd (nI_le (Nat.le_refl _) (by omega)) c)
    have e : h.set j (.inl (N, rFill v 0 i f)) = h := gset_self hj
    rw [e] at kk
    exact kk
  | d + 1, i, f, h, hk, hj, hi, kk => by
    refine g_iload_n dX3_fill_2 rfl 3 rfl rfl ?_
    refine g_aload_n dX3_fill_3 rfl 4 rfl rfl ?_
    refine g_get (v := .ref j) dX3_fill_4 7 rfl lX3_7 hk rfl ?_
    refine g_alen dX3_fill_7 8 rfl hj (nI N) rfl ?_
    refine g_icmp_ge dX3_fill_8 24 rfl 11 rfl (fun c => absurd c (nI_ge (by omega) (by omega))) (fun _ => ?_)
    refine g_aload_n dX3_fill_11 rfl 12 rfl rfl ?_
    refine g_get (v := .ref j) dX3_fill_12 15 rfl lX3_7 hk rfl ?_
    refine g_iload_n dX3_fill_15 rfl 16 rfl rfl ?_
    refine g_iload_n dX3_fill_16 rfl 17 rfl rfl ?_
    refine g_iastore (N := N) dX3_fill_17 18 rfl hj hN (vp_in_nI (by omega) (by omega)) (h' := h.set j (.inl (N, gup f (nI i) v))) rfl ?_
    refine g_iinc2 dX3_fill_18 21 rfl 1 (by decide) (nI (i + 1)) (nI_add _ 1) (by decide) rfl ?_
    refine g_goto dX3_fill_21 2 rfl ?_
    refine LX3_fill hn hN d (i + 1) (gup f (nI i) v) _ (by rw [gset_ne hn]; exact hk) (gset_get hj) (by omega) ?_
    rw [gset_set]
    exact kk
theorem MX3_fill {w : gW} {al : Bool} {h : gH} {k j N : Nat} {f : Int32 → Int32} (hk : h[k]? = some (.inr (.inr (3, [.ref j])))) (hj : h[j]? = some (.inl (N, f))) (hN : N < 2 ^ 31) (hn : j ≠ k) (v : Int32) {h' : gH} (hh : h.set j (.inl (N, rFill v N 0 f)) = h') : M w gT0 al mX3_fill 0 0 h [.ref k, .int v] (gEq h' none) := by
  subst hh
  refine M.of (L0 := [.ref k, .int v, gF]) (by decide +kernel) (Nat.le_of_ble_eq_true rfl) rfl ?_
  refine g_iconst 0 dX3_fill_0 1 rfl (by decide) ?_
  refine g_istore2 dX3_fill_1 2 rfl (by decide) rfl ?_
  refine LX3_fill hn hN N 0 f h hk hj (by omega) ?_
  exact g_return dX3_fill_24 rfl (Nat.le_refl _) (Nat.le_refl _) ⟨rfl, rfl⟩
