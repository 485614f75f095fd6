/-! a day -/
/-- the end of a minute -/
def eR (told s : Int32 → Int32) (sz : Nat) : Int32 → Int32 := if rX10_sails told s (rX10_allAt told s 2 sz) sz = true then gup (rX10_goes told s sz).2 18 (((rX10_goes told s sz).2 18) + 1) else gup s 18 ((s 18) + 1)
def eC (ki ag me : Int32 → Int32) (wa be pr : Int32) (nt : Int32 → Int32) (nm ns np : Int32) (sz bo cr de sd : Nat) : (Int32 → Int32) × Int32 × Nat × Nat × Int32 × Int32 :=
  if rX6_costOf_29 ki ag me wa be pr nt bo sz cr de sd = -4 then (nt, nm + 1, bo, cr, ns, np) else ((gLp (fX6_depart_2_29 ki bo) sz 0 (nt, cr)).1, nm + 1, 0, (gLp (fX6_depart_2_29 ki bo) sz 0 (nt, cr)).2, ns + 1, np + rX6_costOf_29 ki ag me wa be pr nt bo sz cr de sd)
section Day
variable {t m sz : Nat} {K A C G : Nat → Nat} {W B R : Nat} {told s ki ag co pa me nt : Int32 → Int32} {mi sd bo cr de : Nat} {wa be pr ns np : Int32}
theorem live_eq {nm : Int32} {dr : Nat} : rX6_liveMinute ki ag co me wa be pr nt nm ns np dr sz bo cr de sd = eC ki ag me wa be pr nt nm ns np sz (rX6_move_29 co nm (dr % sz) (decide ((((nI dr) / 16) - ((nI dr) / 16) / 2 * 2) = 0)) bo cr de) cr de sd := by
  unfold rX6_liveMinute eC
  by_cases c : (((nI dr) / 16) - ((nI dr) / 16) / 2 * 2) = 0
  · rw [if_pos c, decide_eq_true c]
    rfl
  · rw [if_neg c, decide_eq_false c]
    rfl
theorem turn_def {dr : Nat} : rX10_turn told s dr sz = if (rX10_where told s (dr % sz)) = 1 then eR told (gup s (nI (dr % sz)) 2) sz else if (rX10_where told s (dr % sz)) = 2 then (if (((nI dr) / 16) - ((nI dr) / 16) / 2 * 2) = 0 then eR told (gup s (nI (dr % sz)) 0) sz else eR told s sz) else eR told s sz := rfl
theorem St.pass1 (h : St t m sz C s nt mi bo cr de ns np) (hz : sz ≤ 9) : St t (m + 1) sz C (gup s 18 ((s 18) + 1)) nt (mi + 1) bo cr de ns np := st_pass (k := 1) h hz
theorem st_end (h : St t m sz C s nt mi bo cr de ns np) (hR : Ro sz K A C G W B R told ki ag co pa me sd wa be pr) (ht : t ≤ 1000) (hm : m ≤ 40000) : ∃ nt' bo' cr' ns' np', eC ki ag me wa be pr nt (nI mi) ns np sz bo cr de sd = (nt', nI (mi + 1), bo', cr', ns', np') ∧ St (t + 1) (m + 1) sz C (eR told s sz) nt' (mi + 1) bo' cr' de ns' np' := by
  obtain ⟨Z, T, hA, -⟩ := h.al hR ht hm
  have ca := sail_cost hA
  have ab := all_bo hA.1 hA.2.1 hA.2.2.1 hA.2.2.2.2
  unfold eC eR
  rw [ab]
  by_cases c : rX10_sails told s (nI bo) sz = true
  · obtain ⟨n4, ec⟩ := ca.1 c
    rw [if_pos c, if_neg n4, ec, nI_1]
    exact ⟨_, _, _, _, _, rfl, (st_goes h hR ht hm).pass1 hR.s9⟩
  · rw [if_neg c, if_pos (ca.2 c), nI_1]
    exact ⟨_, _, _, _, _, rfl, (h.up (Nat.le_succ t) (Nat.le_refl m)).pass1 hR.s9⟩
theorem st_turn (h : St t m sz C s nt mi bo cr de ns np) (hR : Ro sz K A C G W B R told ki ag co pa me sd wa be pr) (ht : t ≤ 1000) (hm : m ≤ 40000) (dr : Nat) : ∃ nt' bo' cr' ns' np', rX6_liveMinute ki ag co me wa be pr nt (nI mi) ns np dr sz bo cr de sd = (nt', nI (mi + 1), bo', cr', ns', np') ∧ St (t + 1) (m + 1) sz C (rX10_turn told s dr sz) nt' (mi + 1) bo' cr' de ns' np' := by
  obtain ⟨Z, T, hA, -⟩ := h.al hR ht hm
  have hp : dr % sz < sz := Nat.mod_lt _ hR.1
  have ep := place_eq hA hp
  rw [live_eq, turn_def, ep]
  unfold rX6_move_29
  by_cases c1 : rX6_placeOf_29 co (nI mi) (dr % sz) bo cr de = 1
  · rw [if_pos c1, if_pos c1]
    exact st_end (st_board h hR hm hp c1) hR ht hm
  · rw [if_neg c1, if_neg c1]
    by_cases c2 : rX6_placeOf_29 co (nI mi) (dr % sz) bo cr de = 2
    · rw [if_pos c2, if_pos c2]
      by_cases c3 : (((nI dr) / 16) - ((nI dr) / 16) / 2 * 2) = 0
      · rw [if_pos c3, if_pos (decide_eq_true c3)]
        exact st_end (st_off h hR hm hp c2) hR ht hm
      · rw [if_neg c3, if_neg (fun z => c3 (of_decide_eq_true z))]
        exact st_end h hR ht hm
    · rw [if_neg c2, if_neg c2]
      exact st_end h hR ht hm
theorem day_lp (hR : Ro sz K A C G W B R told ki ag co pa me sd wa be pr) (h : St t m sz C s nt mi bo cr de ns np) (z : Nat) : ∀ d, t + d ≤ 1000 → m + d ≤ 40000 → ∃ nt' bo' cr' ns' np', gLp (fX9_day_47 ki ag co me wa be pr z sz de sd) d 0 (nt, nI mi, bo, cr, ns, np) = (nt', nI (mi + d), bo', cr', ns', np') ∧ St (t + d) (m + d) sz C (gLp (fX10_day_65 told z sz) d 0 s) nt' (mi + d) bo' cr' de ns' np' := by
  intro d
  induction d with
  | zero => exact fun _ _ => ⟨nt, bo, cr, ns, np, rfl, h⟩
  | succ d ih =>
    intro ht hm
    obtain ⟨nt', bo', cr', ns', np', e, h'⟩ := ih (by omega) (by omega)
    obtain ⟨nt2, bo2, cr2, ns2, np2, e2, h2⟩ := st_turn h' hR (by omega) (by omega) (drw z d)
    refine ⟨nt2, bo2, cr2, ns2, np2, ?_, ?_⟩
    · rw [gLp_succ, e, Nat.zero_add]
      unfold fX9_day_47
      dsimp only
      rw [e2]
      rfl
    · rw [gLp_succ, Nat.zero_add]
      exact h2
/-- what a day gives -/
theorem eq_day (hR : Ro sz K A C G W B R told ki ag co pa me sd wa be pr) (h : St t m sz C s nt mi bo cr de ns np) (ht : t ≤ 900) (hm : m ≤ 39000) {held tnt : Int32 → Int32} {tnm tnb tnc tnd tns tnp : Int32} {z d : Nat} (hz : z ≤ 9999) (hd : d ≤ 60) (what : Int32) : (rX10_day told s held z d what sz).1 = (rX9_day ki ag co me wa be pr nt (nI mi) ns np tnt tnm tnb tnc tnd tns tnp z d what sz bo cr de sd).1 ∧ ∀ i, i < 21 → (rX10_day told s held z d what sz).2.1 (nI i) = s (nI i) := by
  have hld : ∀ i, i < 21 → gLp (fX10_day_35 s) 21 0 held (nI i) = s (nI i) := fun i hi => by
    have pa := (put_at (o := 0) (F := fun i => s (nI i)) (f := fX10_day_35 s) (fun i a => by rw [Nat.zero_add]; rfl) held 21 (by decide)).1 i hi
    rw [Nat.zero_add] at pa
    exact pa
  have hbk : ∀ (x : Int32 → Int32) i, i < 21 → gLp (fX10_day_151 (gLp (fX10_day_35 s) 21 0 held)) 21 0 x (nI i) = s (nI i) := fun x i hi => by
    have pa := (put_at (o := 0) (F := fun i => (gLp (fX10_day_35 s) 21 0 held) (nI i)) (f := fX10_day_151 (gLp (fX10_day_35 s) 21 0 held)) (fun i a => by rw [Nat.zero_add]; rfl) x 21 (by decide)).1 i hi
    rw [Nat.zero_add] at pa
    rw [pa]
    exact hld i hi
  have hin : rX10_in (nI z) 0 9999 = true := (in_nI (lo := 0) (hi := 9999) (by omega) (by decide) (by decide)).mpr ⟨Nat.zero_le _, hz⟩
  unfold rX10_day rX9_day
  rw [if_pos hin]
  by_cases c1 : d < 1
  · have e1 : nI d < 1 := (nI_ltI (b := 1) (by omega) (by decide)).mpr c1
    rw [if_neg (fun y => (in01.mp y).1 e1), if_pos e1]
    exact ⟨rfl, fun i hi => rfl⟩
  · have e1 : ¬ nI d < 1 := fun y => c1 ((nI_ltI (b := 1) (by omega) (by decide)).mp y)
    have e2 : ¬ (60 : Int32) < nI d := fun y => absurd ((nI_ltI (a := 60) (by decide) (by omega)).mp y) (by omega)
    rw [if_pos (in01.mpr ⟨e1, e2⟩), if_neg e1]
    by_cases c2 : what < 0
    · rw [if_neg (fun y => (in01.mp y).1 c2), if_pos c2]
      exact ⟨rfl, fun i hi => rfl⟩
    · by_cases c3 : what ≤ 1
      · rw [if_pos (in01.mpr ⟨c2, fun y => absurd c3 (Int32.not_le.mpr y)⟩), if_neg c2, if_pos c3]
        have h0 : St t m sz C s (cpN nt 9 0 tnt) mi bo cr de ns np := h.eqv hR.s9 (fun _ _ => rfl) (fun p hp => cpN_at hp)
        obtain ⟨nt', bo', cr', ns', np', e, h'⟩ := day_lp hR h0 z d (by omega) (by omega)
        rw [e]
        have n19 : ns' = gLp (fX10_day_65 told z sz) d 0 s (nI 19) := h'.2.1
        have n20 : np' = gLp (fX10_day_65 told z sz) d 0 s (nI 20) := h'.2.2.1
        have o19 : ns = s (nI 19) := h.2.1
        have o20 : np = s (nI 20) := h.2.2.1
        by_cases c4 : what = 0
        · rw [if_pos c4, if_pos c4]
          refine ⟨?_, fun i hi => hbk _ i hi⟩
          show gLp (fX10_day_65 told z sz) d 0 s (nI 19) - gLp (fX10_day_35 s) 21 0 held (nI 19) = ns' - ns
          rw [hld 19 (by decide), n19, o19]
        · rw [if_neg c4, if_neg c4]
          refine ⟨?_, fun i hi => hbk _ i hi⟩
          show gLp (fX10_day_65 told z sz) d 0 s (nI 20) - gLp (fX10_day_35 s) 21 0 held (nI 20) = np' - np
          rw [hld 20 (by decide), n20, o20]
      · rw [if_neg (fun y => (in01.mp y).2 (Int32.not_le.mp c3)), if_neg c2, if_neg c3]
        exact ⟨rfl, fun i hi => rfl⟩
end Day
