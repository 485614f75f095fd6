/-! the text: its fault, the laying of it -/
theorem C_fault {wC wM : gW} {k : Nat} {hc hm : gH} (hk : k < 512) (I : Inv k hc hm) : LC wC wM mX9_fault mX10_fault [] k hc hm := by
  refine I.elim (LC wC wM mX9_fault mX10_fault [] k) ?_
  intro tl rn ki ag co pa me dki dag dco dpa dme nt tnt os og cs mo le se ab text told draft s past images notes alone parts held rp wa be pr dso drs dwa dbe dpr ns np tnm tnb tnc tnd tns tnp pk pc lf cu cd at_ pst kst ty sz hd pn kp W B R mi bo cr de sd pg K A C G osn smn h1 h2 h3 h4 h5 h6
  obtain ⟨e, -⟩ := read_start h1 draft rn dki dag dco dpa dme dwa dbe dpr
  have M1 := MX9_fault (w := wC) (al := false) (tl := tl) (rn := rn) (rp := rp) (ki := ki) (ag := ag) (co := co) (pa := pa) (me := me) (so := nI sd) (rs := nI sz) (wa := wa) (be := be) (pr := pr) (dki := dki) (dag := dag) (dco := dco) (dpa := dpa) (dme := dme) (dso := dso) (drs := drs) (dwa := dwa) (dbe := dbe) (dpr := dpr) (nt := nt) (nm := nI mi) (nb := nI bo) (nc := nI cr) (nd := nI de) (ns := ns) (np := np) (tnt := tnt) (tnm := tnm) (tnb := tnb) (tnc := tnc) (tnd := tnd) (tns := tns) (tnp := tnp) (pf := shl pg) (ph := nI pn) (pst := pst) (kh := nI kp) (kst := kst) (os := os) (og := og) (oh := nI hd) (cs := cs) (mo := mo) (le := le) (se := se) (pk := pk) (pc := pc) (lf := lf) (ab := ab) (cu := cu) (cd := cd) h1.1
  have M2 := MX10_fault (w := wM) (al := false) (text := text) (told := told) (draft := draft) (s := s) (past := past) (known := nI pn) (images := images) (kept := nI kp) (notes := notes) (noted := nI hd) (at_ := at_) (alone := alone) (parts := parts) (held := held) h1.1
  exact LC.mk M1 M2 e (Inv.mk h1 h2 (h3.up (Nat.le_succ k) (k60 k)) (h4.up (Nat.le_succ k) (k60 k)) (h5.up (Nat.le_succ k) (k60 k)) h6)
theorem C_lay {wC wM : gW} {k : Nat} {hc hm : gH} (hk : k < 512) (I : Inv k hc hm) : LC wC wM mX9_lay mX10_lay [] k hc hm := by
  refine I.elim (LC wC wM mX9_lay mX10_lay [] k) ?_
  intro tl rn ki ag co pa me dki dag dco dpa dme nt tnt os og cs mo le se ab text told draft s past images notes alone parts held rp wa be pr dso drs dwa dbe dpr ns np tnm tnb tnc tnd tns tnp pk pc lf cu cd at_ pst kst ty sz hd pn kp W B R mi bo cr de sd pg K A C G osn smn h1 h2 h3 h4 h5 h6
  obtain ⟨e, r1⟩ := read_start h1 draft rn dki dag dco dpa dme dwa dbe dpr
  have M1 := MX9_lay (w := wC) (al := false) (tl := tl) (rn := rn) (rp := rp) (ki := ki) (ag := ag) (co := co) (pa := pa) (me := me) (so := nI sd) (rs := nI sz) (wa := wa) (be := be) (pr := pr) (dki := dki) (dag := dag) (dco := dco) (dpa := dpa) (dme := dme) (dso := dso) (drs := drs) (dwa := dwa) (dbe := dbe) (dpr := dpr) (nt := nt) (nm := nI mi) (nb := nI bo) (nc := nI cr) (nd := nI de) (ns := ns) (np := np) (tnt := tnt) (tnm := tnm) (tnb := tnb) (tnc := tnc) (tnd := tnd) (tns := tns) (tnp := tnp) (pf := shl pg) (ph := nI pn) (pst := pst) (kh := nI kp) (kst := kst) (os := os) (og := og) (oh := nI hd) (cs := cs) (mo := mo) (le := le) (se := se) (pk := pk) (pc := pc) (lf := lf) (ab := ab) (cu := cu) (cd := cd) h1.1
  have M2 := MX10_lay (w := wM) (al := false) (text := text) (told := told) (draft := draft) (s := s) (past := past) (known := nI pn) (images := images) (kept := nI kp) (notes := notes) (noted := nI hd) (at_ := at_) (alone := alone) (parts := parts) (held := held) h1.1
  by_cases c1 : (rInto tl rn dki dag dco dpa dme dwa dbe dpr ty).1 = -4
  · have d1 : (rdAll text ty 201 0 (rX10_begins draft)).1 = -4 := e.trans c1
    obtain ⟨rn', ax', ki', ag', co', pa', me', so', dz', wa', be', pr', K', A', C', G', W', B', R', ee, hr⟩ := r1 d1
    have l9 : dz' ≤ 9 := hr.1.1
    have ez : (rdAll text ty 201 0 (rX10_begins draft)).2.2 0 = nI dz' := hr.2.1.1
    by_cases c2 : dz' = 0
    · have c3 : nI (rInto tl rn dki dag dco dpa dme dwa dbe dpr ty).2.2.2.2.2.2.2.2.2.1 = 0 := by
        rw [ee, c2]
        rfl
      have c4 : (rdAll text ty 201 0 (rX10_begins draft)).2.2 0 = 0 := by
        rw [ez, c2]
        rfl
      rw [rX9_lay, if_pos c1, if_pos c3] at M1
      rw [rX10_lay, if_pos d1, if_pos c4] at M2
      dsimp only at M1 M2
      exact LC.mk M1 M2 rfl (Inv.mk h1 h2 (h3.up (Nat.le_succ k) (k60 k)) (h4.up (Nat.le_succ k) (k60 k)) (h5.up (Nat.le_succ k) (k60 k)) h6)
    · have n0 : ¬ nI dz' = 0 := fun z => c2 ((nI_eq (b := 0) (by omega) (by decide)).mp z)
      have c3 : ¬ nI (rInto tl rn dki dag dco dpa dme dwa dbe dpr ty).2.2.2.2.2.2.2.2.2.1 = 0 := by
        rw [ee]
        exact n0
      have c4 : ¬ (rdAll text ty 201 0 (rX10_begins draft)).2.2 0 = 0 := by
        rw [ez]
        exact n0
      obtain ⟨-, r2⟩ := read_start h1 draft (rInto tl rn dki dag dco dpa dme dwa dbe dpr ty).2.1 ki ag co pa me wa be pr
      obtain ⟨rn2, ax2, ki2, ag2, co2, pa2, me2, so2, dz2, wa2, be2, pr2, K2, A2, C2, G2, W2, B2, R2, ee2, hr2⟩ := r2 d1
      have ez2 : (rdAll text ty 201 0 (rX10_begins draft)).2.2 0 = nI dz2 := hr2.2.1.1
      have l1 : 1 ≤ dz2 := by
        rcases Nat.eq_zero_or_pos dz2 with y | y
        · rw [y] at ez2
          exact absurd ez2 c4
        · exact y
      obtain ⟨sd2, es, hR⟩ := rd_ro (told := told) hr2 l1
      subst es
      have el : rX10_lays told (rdAll text ty 201 0 (rX10_begins draft)).2.2 s = (gLp (fX10_lays_2 (rdAll text ty 201 0 (rX10_begins draft)).2.2) 40 0 told, gLp fX10_lays_28 21 0 s, nI 0, nI 0, nI 0) := rfl
      have er : rX6_reset nt = (rFill 0 9 0 nt, nI 0, nI 0, nI 0, nI 0, 0, 0) := rfl
      have ec : rX8_clear = nI 0 := rfl
      rw [rX9_lay, if_pos c1, if_neg c3, ee2, er, ec] at M1
      rw [rX10_lay, if_pos d1, if_neg c4, el] at M2
      dsimp only at M1 M2
      have h6' : Nts dz2 A2 0 notes os og osn smn := ⟨Nat.zero_le _, fun j hj => absurd hj (Nat.not_lt_zero j)⟩
      exact LC.mk M1 M2 ((lays_t 0 (by decide)).trans ez2) (Inv.mk (pn := 0) (kp := 0) h1 hR (st_zero hR.s9 lays_s reset_n) (Ps.nil h4) Ks.nil h6')
  · have d1 : ¬ (rdAll text ty 201 0 (rX10_begins draft)).1 = -4 := fun z => c1 (e.symm.trans z)
    rw [rX9_lay, if_neg c1] at M1
    rw [rX10_lay, if_neg d1] at M2
    dsimp only at M1 M2
    exact LC.mk M1 M2 rfl (Inv.mk h1 h2 (h3.up (Nat.le_succ k) (k60 k)) (h4.up (Nat.le_succ k) (k60 k)) (h5.up (Nat.le_succ k) (k60 k)) h6)
