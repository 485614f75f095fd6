/-! the moves: states that are kept -/
/-- a state of a shelf -/
def im (f : Int32 → Int32) (j : Nat) : Int32 → Int32 := fun x => f (nI (21 * j + x.toNatClampNeg))
theorem im_at {f : Int32 → Int32} {j i : Nat} (hi : i < 21) : im f j (nI i) = f (nI (21 * j + i)) := by
  unfold im
  rw [nI_clamp (by omega)]
def Sn (t m sz : Nat) (C : Nat → Nat) (s : Int32 → Int32) (v : gS) : Prop := ∃ (nt : Int32 → Int32) (mi bo cr de : Nat) (ns np : Int32), v = (nt, nI mi, nI bo, nI cr, nI de, ns, np) ∧ St t m sz C s nt mi bo cr de ns np
/-- the states that can be undone -/
def Ps (t m sz : Nat) (C : Nat → Nat) (past : Int32 → Int32) (pn : Nat) (pg : Nat → Nat) (pst : Nat → gS) : Prop := pn ≤ 8 ∧ (∀ j, j < 8 → pg j < 8) ∧ (∀ i j, i < 8 → j < 8 → pg i = pg j → i = j) ∧ ∀ j, j < pn → Sn t m sz C (im past j) (pst (pg j))
/-- the quays that are kept -/
def Ks (t m sz : Nat) (C : Nat → Nat) (images : Int32 → Int32) (kp : Nat) (kst : Nat → gS) : Prop := kp ≤ 2 ∧ ∀ j, j < kp → Sn t m sz C (im images j) (kst j)
section Past
variable {t m sz : Nat} {C : Nat → Nat} {s nt past images : Int32 → Int32} {mi bo cr de : Nat} {ns np : Int32} {pn kp : Nat} {pg : Nat → Nat} {pst kst : Nat → gS} {v : gS}
theorem Sn.up {t' m' : Nat} (h : Sn t m sz C s v) (ht : t ≤ t') (hm : m ≤ m') : Sn t' m' sz C s v := by
  obtain ⟨nt, mi, bo, cr, de, ns, np, e, h⟩ := h
  exact ⟨nt, mi, bo, cr, de, ns, np, e, h.up ht hm⟩
theorem Sn.eqv {s' : Int32 → Int32} (h : Sn t m sz C s v) (hz : sz ≤ 9) (hs : ∀ i, i < 21 → s' (nI i) = s (nI i)) : Sn t m sz C s' v := by
  obtain ⟨nt, mi, bo, cr, de, ns, np, e, h⟩ := h
  exact ⟨nt, mi, bo, cr, de, ns, np, e, h.eqv hz hs (fun _ _ => rfl)⟩
theorem Ps.up {t' m' : Nat} (h : Ps t m sz C past pn pg pst) (ht : t ≤ t') (hm : m ≤ m') : Ps t' m' sz C past pn pg pst := ⟨h.1, h.2.1, h.2.2.1, fun j hj => (h.2.2.2 j hj).up ht hm⟩
theorem Ks.up {t' m' : Nat} (h : Ks t m sz C images kp kst) (ht : t ≤ t') (hm : m ≤ m') : Ks t' m' sz C images kp kst := ⟨h.1, fun j hj => (h.2 j hj).up ht hm⟩
theorem Ps.nil {t' m' sz' : Nat} {C' : Nat → Nat} (h : Ps t m sz C past pn pg pst) : Ps t' m' sz' C' past 0 pg pst := ⟨by omega, h.2.1, h.2.2.1, fun j hj => absurd hj (by omega)⟩
theorem Ks.nil {t' m' sz' : Nat} {C' : Nat → Nat} : Ks t' m' sz' C' images 0 kst := ⟨by omega, fun j hj => absurd hj (by omega)⟩
theorem sn_copy {s' : Int32 → Int32} {old : gS} (h : St t m sz C s nt mi bo cr de ns np) (hz : sz ≤ 9) (hs : ∀ i, i < 21 → s' (nI i) = s (nI i)) : Sn t m sz C s' (cpS (nt, nI mi, nI bo, nI cr, nI de, ns, np) old) := ⟨_, mi, bo, cr, de, ns, np, rfl, h.eqv hz hs (fun _ hp => cpN_at hp)⟩
theorem up_same {st : Nat → gS} {o : Nat} : upS st o v o = v := if_pos rfl
theorem up_oth {st : Nat → gS} {o k : Nat} (h : k ≠ o) : upS st o v k = st k := if_neg h
/-- the state now goes behind the others -/
theorem Ps.push (h : Ps t m sz C past pn pg pst) (hS : St t m sz C s nt mi bo cr de ns np) (hz : sz ≤ 9) : Ps t m sz C (pNx s past pn) (kNx pn) (pgA pg pn) (pstA pst pg pn (nt, nI mi, nI bo, nI cr, nI de, ns, np)) := by
  obtain ⟨h1, h2, h3, h4⟩ := h
  unfold pNx kNx pgA pstA
  by_cases c : pn = 8
  · have e7 : pgA pg pn (kNx pn - 1) = pg 0 := by
      unfold pgA kNx
      rw [if_pos c, if_pos c]
      rfl
    rw [e7, if_pos c, if_pos c, if_pos c]
    have r1 : ∀ j, j < 7 → rot pg j = pg (j + 1) := fun j hj => if_pos hj
    have r7 : rot pg 7 = pg 0 := rfl
    refine ⟨by omega, fun j hj => ?_, fun i j hi hj e => ?_, fun j hj => ?_⟩
    · by_cases c7 : j < 7
      · rw [r1 j c7]
        exact h2 _ (by omega)
      · rw [show j = 7 by omega, r7]
        exact h2 _ (by omega)
    · by_cases ci : i < 7
      · by_cases cj : j < 7
        · rw [r1 i ci, r1 j cj] at e
          have := h3 _ _ (by omega) (by omega) e
          omega
        · rw [r1 i ci, show j = 7 by omega, r7] at e
          have := h3 _ _ (by omega) (by omega) e
          omega
      · by_cases cj : j < 7
        · rw [r1 j cj, show i = 7 by omega, r7] at e
          have := h3 _ _ (by omega) (by omega) e
          omega
        · omega
    · have ek : (rX10_keeps_8 s past).1 = gLp (fX10_keeps_51 s 7) 21 0 (gLp fX10_keeps_11 147 0 past) := rfl
      have pa := put_at (o := 21 * 7) (F := fun i => s (nI i)) (f := fX10_keeps_51 s 7) (fun i a => rfl) (gLp fX10_keeps_11 147 0 past) 21 (by decide)
      by_cases c7 : j < 7
      · rw [r1 j c7, up_oth (fun z => absurd (h3 _ _ (by omega) (by omega) z) (by omega))]
        refine (h4 (j + 1) (by omega)).eqv hz (fun i hi => ?_)
        rw [im_at hi, im_at hi, ek, pa.2 (21 * j + i) (by omega) (Or.inl (by omega)), (shift_at past 147 (Nat.le_refl _)).1 (21 * j + i) (by omega), show 21 * j + i + 21 = 21 * (j + 1) + i by omega]
      · rw [show j = 7 by omega, r7, up_same]
        refine sn_copy hS hz (fun i hi => ?_)
        rw [im_at hi, ek, pa.1 i hi]
  · have e7 : pgA pg pn (kNx pn - 1) = pg pn := by
      unfold pgA kNx
      rw [if_neg c, if_neg c]
      rfl
    rw [e7, if_neg c, if_neg c, if_neg c]
    refine ⟨by omega, h2, h3, fun j hj => ?_⟩
    have ek : (rX10_keeps s past pn).1 = gLp (fX10_keeps_51 s pn) 21 0 past := rfl
    have pa := put_at (o := 21 * pn) (F := fun i => s (nI i)) (f := fX10_keeps_51 s pn) (fun i a => rfl) past 21 (by omega)
    by_cases cj : j = pn
    · rw [cj, up_same]
      refine sn_copy hS hz (fun i hi => ?_)
      rw [im_at hi, ek, pa.1 i hi]
    · rw [up_oth (fun z => cj (h3 _ _ (by omega) (by omega) z))]
      refine (h4 j (by omega)).eqv hz (fun i hi => ?_)
      rw [im_at hi, im_at hi, ek, pa.2 (21 * j + i) (by omega) (Or.inl (by omega))]
/-- the last state comes back -/
theorem Ps.pop (h : Ps t m sz C past (pn + 1) pg pst) (hz : sz ≤ 9) (ns2 : Int32 → Int32) : ∃ nt mi bo cr de ns np, pst (pg pn) = (nt, nI mi, nI bo, nI cr, nI de, ns, np) ∧ St t m sz C (gLp (fX10_undo_22 past pn) 21 0 s) (cpN nt 9 0 ns2) mi bo cr de ns np ∧ Ps t m sz C past pn pg pst := by
  obtain ⟨h1, h2, h3, h4⟩ := h
  obtain ⟨nt, mi, bo, cr, de, ns, np, e, h⟩ := h4 pn (by omega)
  refine ⟨nt, mi, bo, cr, de, ns, np, e, h.eqv hz (fun i hi => ?_) (fun p hp => cpN_at hp), ⟨by omega, h2, h3, fun j hj => h4 j (by omega)⟩⟩
  have pa := (put_at (o := 0) (F := fun i => past (nI (21 * pn + i))) (f := fX10_undo_22 past pn) (fun i a => by rw [Nat.zero_add]; rfl) s 21 (by decide)).1 i hi
  rw [Nat.zero_add] at pa
  rw [im_at hi, pa]
theorem Ks.push (h : Ks t m sz C images kp kst) (hk : kp < 2) (hS : St t m sz C s nt mi bo cr de ns np) (hz : sz ≤ 9) : Ks t m sz C (gLp (fX10_keep_13 s kp) 21 0 images) (kp + 1) (upS kst kp (cpS (nt, nI mi, nI bo, nI cr, nI de, ns, np) (kst kp))) := by
  refine ⟨by omega, fun j hj => ?_⟩
  have pa := put_at (o := 21 * kp) (F := fun i => s (nI i)) (f := fX10_keep_13 s kp) (fun i a => rfl) images 21 (by omega)
  by_cases cj : j = kp
  · rw [cj, up_same]
    refine sn_copy hS hz (fun i hi => ?_)
    rw [im_at hi, pa.1 i hi]
  · rw [up_oth cj]
    refine (h.2 j (by omega)).eqv hz (fun i hi => ?_)
    rw [im_at hi, im_at hi, pa.2 (21 * j + i) (by omega) (Or.inl (by omega))]
theorem Ks.pop (h : Ks t m sz C images (kp + 1) kst) (hz : sz ≤ 9) (ns2 : Int32 → Int32) : ∃ nt mi bo cr de ns np, kst kp = (nt, nI mi, nI bo, nI cr, nI de, ns, np) ∧ St t m sz C (gLp (fX10_back_22 images kp) 21 0 s) (cpN nt 9 0 ns2) mi bo cr de ns np ∧ Ks t m sz C images kp kst := by
  obtain ⟨h1, h4⟩ := h
  obtain ⟨nt, mi, bo, cr, de, ns, np, e, h⟩ := h4 kp (by omega)
  refine ⟨nt, mi, bo, cr, de, ns, np, e, h.eqv hz (fun i hi => ?_) (fun p hp => cpN_at hp), ⟨by omega, fun j hj => h4 j (by omega)⟩⟩
  have pa := (put_at (o := 0) (F := fun i => images (nI (21 * kp + i))) (f := fX10_back_22 images kp) (fun i a => by rw [Nat.zero_add]; rfl) s 21 (by decide)).1 i hi
  rw [Nat.zero_add] at pa
  rw [im_at hi, pa]
end Past
