/-! the moves -/
theorem sum_eq {sz : Nat} {K A C G : Nat → Nat} {W B R : Nat} {Z T : Nat → Nat} {mi : Nat} {told s ki ag co pa me nt : Int32 → Int32} {sd bo cr de : Nat} {wa be pr : Int32} (h : Al sz K A C G W B R Z T mi told s ki ag co pa me nt sd bo cr de wa be pr) : rX10_sumOf told s (rX10_allAt told s 2 sz) sz = rX6_totalOf_29 ki ag nt bo sz sd := by
  obtain ⟨hB, hR, hS, hCr, hC⟩ := h
  rw [all_bo hB hR hS hC, ref_sum hB hR hS (Nat.lt_trans (pow9 hB.2.1 hC.1) (by decide)), cls_sum hB hCr hC]
theorem C_pass {wC wM : gW} {k : Nat} {hc hm : gH} (hk : k < 512) (v0 : Int32) (I : Inv k hc hm) : LC wC wM mX9_pass mX10_pass [.int v0] k hc hm := by
  refine I.elim (LC wC wM mX9_pass mX10_pass [.int v0] k) ?_
  intro tl rn ki ag co pa me dki dag dco dpa dme nt tnt os og cs mo le se ab text told draft s past images notes alone parts held rp wa be pr dso drs dwa dbe dpr ns np tnm tnb tnc tnd tns tnp pk pc lf cu cd at_ pst kst ty sz hd pn kp W B R mi bo cr de sd pg K A C G osn smn h1 h2 h3 h4 h5 h6
  obtain ⟨Z, T, hA, -⟩ := h3.al h2 (by omega) (by omega)
  have h0 : told 0 = nI sz := h2.2.2.1.1
  have s9 := h2.s9
  have bb := h3.bits s9
  have d5 := h2.d512
  have hp8 := h4.1
  have hpg := h4.2.1
  have M1 := MX9_pass (w := wC) (al := false) (tl := tl) (tn := nI ty) (rn := rn) (rp := rp) (ki := ki) (ag := ag) (co := co) (pa := pa) (me := me) (wa := wa) (be := be) (pr := pr) (dki := dki) (dag := dag) (dco := dco) (dpa := dpa) (dme := dme) (dso := dso) (drs := drs) (dwa := dwa) (dbe := dbe) (dpr := dpr) (nt := nt) (nm := nI mi) (ns := ns) (np := np) (tnt := tnt) (tnm := tnm) (tnb := tnb) (tnc := tnc) (tnd := tnd) (tns := tns) (tnp := tnp) (pst := pst) (kh := nI kp) (kst := kst) (os := os) (og := og) (oh := nI hd) (cs := cs) (mo := mo) (le := le) (se := se) (pk := pk) (pc := pc) (lf := lf) (ab := ab) (cu := cu) (cd := cd) v0 s9 bb.1 bb.2.1 bb.2.2 d5 hp8 hpg
  have M2 := MX10_pass (w := wM) (al := false) (text := text) (typed := nI ty) (told := told) (draft := draft) (s := s) (past := past) (images := images) (kept := nI kp) (notes := notes) (noted := nI hd) (at_ := at_) (alone := alone) (parts := parts) (held := held) v0 hp8
  by_cases c1 : v0 < 1
  · have e1 : rX9_pass nt (nI mi) ns np pst v0 bo cr de pn pg = (-1, nI mi, shl pg, pn, pst) := by
      rw [rX9_pass, if_pos c1]
    have e2 : rX10_pass s past v0 pn = (-1, s, past, pn) := by
      rw [rX10_pass, if_neg (fun z => (in01.mp z).1 c1)]
    rw [e1] at M1
    rw [e2] at M2
    exact LC.mk M1 M2 rfl (Inv.mk h1 h2 (h3.up (Nat.le_succ k) (k60 k)) (h4.up (Nat.le_succ k) (k60 k)) (h5.up (Nat.le_succ k) (k60 k)) h6)
  · by_cases c2 : v0 ≤ 60
    · obtain ⟨q, hq31, rfl⟩ := i_nat (lt1_0 c1)
      have q60 : q ≤ 60 := (nI_leI (b := 60) hq31 (by decide)).mp c2
      have t3 : s 18 = nI mi := hA.2.2.1.1
      have e1 : rX9_pass nt (nI mi) ns np pst (nI q) bo cr de pn pg = (nI (mi + q), nI (mi + q), shl (pgA pg pn), kNx pn, pstA pst pg pn (nt, nI mi, nI bo, nI cr, nI de, ns, np)) := by
        rw [rX9_pass, if_neg c1, if_pos c2, nI_add]
      have e2 : rX10_pass s past (nI q) pn = (nI (mi + q), gup s 18 ((s 18) + nI q), pNx s past pn, kNx pn) := by
        rw [rX10_pass, if_pos (in01.mpr ⟨c1, fun z => absurd c2 (Int32.not_le.mpr z)⟩), t3, nI_add]
      rw [e1] at M1
      rw [e2] at M2
      exact LC.mk M1 M2 rfl (Inv.mk h1 h2 ((st_pass (k := q) h3 s9).up (Nat.le_succ k) (by omega)) ((h4.push h3 s9).up (Nat.le_succ k) (k60 k)) (h5.up (Nat.le_succ k) (k60 k)) h6)
    · have e1 : rX9_pass nt (nI mi) ns np pst v0 bo cr de pn pg = (-1, nI mi, shl pg, pn, pst) := by
        rw [rX9_pass, if_neg c1, if_neg c2]
      have e2 : rX10_pass s past v0 pn = (-1, s, past, pn) := by
        rw [rX10_pass, if_neg (fun z => (in01.mp z).2 (Int32.not_le.mp c2))]
      rw [e1] at M1
      rw [e2] at M2
      exact LC.mk M1 M2 rfl (Inv.mk h1 h2 (h3.up (Nat.le_succ k) (k60 k)) (h4.up (Nat.le_succ k) (k60 k)) (h5.up (Nat.le_succ k) (k60 k)) h6)
theorem C_board {wC wM : gW} {k : Nat} {hc hm : gH} (hk : k < 512) (v0 : Int32) (I : Inv k hc hm) : LC wC wM mX9_board mX10_board [.int v0] k hc hm := by
  refine I.elim (LC wC wM mX9_board mX10_board [.int v0] k) ?_
  intro tl rn ki ag co pa me dki dag dco dpa dme nt tnt os og cs mo le se ab text told draft s past images notes alone parts held rp wa be pr dso drs dwa dbe dpr ns np tnm tnb tnc tnd tns tnp pk pc lf cu cd at_ pst kst ty sz hd pn kp W B R mi bo cr de sd pg K A C G osn smn h1 h2 h3 h4 h5 h6
  obtain ⟨Z, T, hA, -⟩ := h3.al h2 (by omega) (by omega)
  have h0 : told 0 = nI sz := h2.2.2.1.1
  have s9 := h2.s9
  have bb := h3.bits s9
  have d5 := h2.d512
  have hp8 := h4.1
  have hpg := h4.2.1
  by_cases hv : rX9_isPerson v0 sz = true
  · obtain ⟨q, hq, rfl⟩ := person_n s9 hv
    have hw : rX10_isPerson told (nI q) = true := (person_iff h0 s9).trans hv
    have q9 : q < 9 := by omega
    have ep := place_eq hA hq
    have M1 := MX9_board (w := wC) (al := false) (tl := tl) (tn := nI ty) (rn := rn) (rp := rp) (ki := ki) (ag := ag) (co := co) (pa := pa) (me := me) (wa := wa) (be := be) (pr := pr) (dki := dki) (dag := dag) (dco := dco) (dpa := dpa) (dme := dme) (dso := dso) (drs := drs) (dwa := dwa) (dbe := dbe) (dpr := dpr) (nt := nt) (nm := nI mi) (ns := ns) (np := np) (tnt := tnt) (tnm := tnm) (tnb := tnb) (tnc := tnc) (tnd := tnd) (tns := tns) (tnp := tnp) (pst := pst) (kh := nI kp) (kst := kst) (os := os) (og := og) (oh := nI hd) (cs := cs) (mo := mo) (le := le) (se := se) (pk := pk) (pc := pc) (lf := lf) (ab := ab) (cu := cu) (cd := cd) q s9 bb.1 bb.2.1 bb.2.2 d5 hp8 hpg q9 hv
    have M2 := MX10_board (w := wM) (al := false) (text := text) (typed := nI ty) (told := told) (draft := draft) (s := s) (past := past) (images := images) (kept := nI kp) (notes := notes) (noted := nI hd) (at_ := at_) (alone := alone) (parts := parts) (held := held) q h0 s9 hp8 q9 hw
    by_cases c1 : rX6_placeOf_29 co (nI mi) q bo cr de = 1
    · have hS := st_board h3 h2 (by omega) hq c1
      obtain ⟨Z2, T2, hA2, -⟩ := hS.al h2 (by omega) (by omega)
      have e1 : rX9_board ki ag co nt (nI mi) ns np pst q sz bo cr de sd pn pg = (rX6_totalOf_29 ki ag nt (bo ||| 2 ^ q) sz sd, bo ||| 2 ^ q, shl (pgA pg pn), kNx pn, pstA pst pg pn (nt, nI mi, nI bo, nI cr, nI de, ns, np)) := by
        rw [rX9_board, if_pos c1]
        rfl
      have e2 : rX10_board told s past q sz pn = (rX10_sumOf told (gup s (nI q) 2) (rX10_allAt told (gup s (nI q) 2) 2 sz) sz, gup s (nI q) 2, pNx s past pn, kNx pn) := by
        rw [rX10_board, if_pos (ep.trans c1)]
      rw [e1] at M1
      rw [e2] at M2
      exact LC.mk M1 M2 (sum_eq hA2) (Inv.mk h1 h2 (hS.up (Nat.le_succ k) (k60 k)) ((h4.push h3 s9).up (Nat.le_succ k) (k60 k)) (h5.up (Nat.le_succ k) (k60 k)) h6)
    · have e1 : rX9_board ki ag co nt (nI mi) ns np pst q sz bo cr de sd pn pg = (-2, bo, shl pg, pn, pst) := by
        rw [rX9_board, if_neg c1]
      have e2 : rX10_board told s past q sz pn = (-2, s, past, pn) := by
        rw [rX10_board, if_neg (fun z => c1 (ep.symm.trans z))]
      rw [e1] at M1
      rw [e2] at M2
      exact LC.mk M1 M2 rfl (Inv.mk h1 h2 (h3.up (Nat.le_succ k) (k60 k)) (h4.up (Nat.le_succ k) (k60 k)) (h5.up (Nat.le_succ k) (k60 k)) h6)
  · have hw : ¬ rX10_isPerson told v0 = true := fun z => hv ((person_iff h0 s9).symm.trans z)
    exact LC.mk (MX9_board_x v0 s9 bb.1 bb.2.1 bb.2.2 d5 hv) (MX10_board_x v0 h0 s9 hp8 hw) rfl (Inv.mk h1 h2 (h3.up (Nat.le_succ k) (k60 k)) (h4.up (Nat.le_succ k) (k60 k)) (h5.up (Nat.le_succ k) (k60 k)) h6)
theorem C_stepOff {wC wM : gW} {k : Nat} {hc hm : gH} (hk : k < 512) (v0 : Int32) (I : Inv k hc hm) : LC wC wM mX9_stepOff mX10_stepOff [.int v0] k hc hm := by
  refine I.elim (LC wC wM mX9_stepOff mX10_stepOff [.int v0] k) ?_
  intro tl rn ki ag co pa me dki dag dco dpa dme nt tnt os og cs mo le se ab text told draft s past images notes alone parts held rp wa be pr dso drs dwa dbe dpr ns np tnm tnb tnc tnd tns tnp pk pc lf cu cd at_ pst kst ty sz hd pn kp W B R mi bo cr de sd pg K A C G osn smn h1 h2 h3 h4 h5 h6
  obtain ⟨Z, T, hA, -⟩ := h3.al h2 (by omega) (by omega)
  have h0 : told 0 = nI sz := h2.2.2.1.1
  have s9 := h2.s9
  have bb := h3.bits s9
  have d5 := h2.d512
  have hp8 := h4.1
  have hpg := h4.2.1
  by_cases hv : rX9_isPerson v0 sz = true
  · obtain ⟨q, hq, rfl⟩ := person_n s9 hv
    have hw : rX10_isPerson told (nI q) = true := (person_iff h0 s9).trans hv
    have q9 : q < 9 := by omega
    have ep := place_eq hA hq
    have M1 := MX9_stepOff (w := wC) (al := false) (tl := tl) (tn := nI ty) (rn := rn) (rp := rp) (ki := ki) (ag := ag) (co := co) (pa := pa) (me := me) (wa := wa) (be := be) (pr := pr) (dki := dki) (dag := dag) (dco := dco) (dpa := dpa) (dme := dme) (dso := dso) (drs := drs) (dwa := dwa) (dbe := dbe) (dpr := dpr) (nt := nt) (nm := nI mi) (ns := ns) (np := np) (tnt := tnt) (tnm := tnm) (tnb := tnb) (tnc := tnc) (tnd := tnd) (tns := tns) (tnp := tnp) (pst := pst) (kh := nI kp) (kst := kst) (os := os) (og := og) (oh := nI hd) (cs := cs) (mo := mo) (le := le) (se := se) (pk := pk) (pc := pc) (lf := lf) (ab := ab) (cu := cu) (cd := cd) q s9 bb.1 bb.2.1 bb.2.2 d5 hp8 hpg q9 hv
    have M2 := MX10_stepOff (w := wM) (al := false) (text := text) (typed := nI ty) (told := told) (draft := draft) (s := s) (past := past) (images := images) (kept := nI kp) (notes := notes) (noted := nI hd) (at_ := at_) (alone := alone) (parts := parts) (held := held) q h0 s9 hp8 q9 hw
    by_cases c1 : rX6_placeOf_29 co (nI mi) q bo cr de = 2
    · have hS := st_off h3 h2 (by omega) hq c1
      obtain ⟨Z2, T2, hA2, -⟩ := hS.al h2 (by omega) (by omega)
      have e1 : rX9_stepOff ki ag co nt (nI mi) ns np pst q sz bo cr de sd pn pg = (rX6_totalOf_29 ki ag nt (andN bo (2 ^ q)) sz sd, andN bo (2 ^ q), shl (pgA pg pn), kNx pn, pstA pst pg pn (nt, nI mi, nI bo, nI cr, nI de, ns, np)) := by
        rw [rX9_stepOff, if_pos c1]
        rfl
      have e2 : rX10_stepOff told s past q sz pn = (rX10_sumOf told (gup s (nI q) 0) (rX10_allAt told (gup s (nI q) 0) 2 sz) sz, gup s (nI q) 0, pNx s past pn, kNx pn) := by
        rw [rX10_stepOff, if_pos (ep.trans c1)]
      rw [e1] at M1
      rw [e2] at M2
      exact LC.mk M1 M2 (sum_eq hA2) (Inv.mk h1 h2 (hS.up (Nat.le_succ k) (k60 k)) ((h4.push h3 s9).up (Nat.le_succ k) (k60 k)) (h5.up (Nat.le_succ k) (k60 k)) h6)
    · have e1 : rX9_stepOff ki ag co nt (nI mi) ns np pst q sz bo cr de sd pn pg = (-2, bo, shl pg, pn, pst) := by
        rw [rX9_stepOff, if_neg c1]
      have e2 : rX10_stepOff told s past q sz pn = (-2, s, past, pn) := by
        rw [rX10_stepOff, if_neg (fun z => c1 (ep.symm.trans z))]
      rw [e1] at M1
      rw [e2] at M2
      exact LC.mk M1 M2 rfl (Inv.mk h1 h2 (h3.up (Nat.le_succ k) (k60 k)) (h4.up (Nat.le_succ k) (k60 k)) (h5.up (Nat.le_succ k) (k60 k)) h6)
  · have hw : ¬ rX10_isPerson told v0 = true := fun z => hv ((person_iff h0 s9).symm.trans z)
    exact LC.mk (MX9_stepOff_x v0 s9 bb.1 bb.2.1 bb.2.2 d5 hv) (MX10_stepOff_x v0 h0 s9 hp8 hw) rfl (Inv.mk h1 h2 (h3.up (Nat.le_succ k) (k60 k)) (h4.up (Nat.le_succ k) (k60 k)) (h5.up (Nat.le_succ k) (k60 k)) h6)
theorem C_die {wC wM : gW} {k : Nat} {hc hm : gH} (hk : k < 512) (v0 : Int32) (I : Inv k hc hm) : LC wC wM mX9_die mX10_die [.int v0] k hc hm := by
  refine I.elim (LC wC wM mX9_die mX10_die [.int v0] k) ?_
  intro tl rn ki ag co pa me dki dag dco dpa dme nt tnt os og cs mo le se ab text told draft s past images notes alone parts held rp wa be pr dso drs dwa dbe dpr ns np tnm tnb tnc tnd tns tnp pk pc lf cu cd at_ pst kst ty sz hd pn kp W B R mi bo cr de sd pg K A C G osn smn h1 h2 h3 h4 h5 h6
  obtain ⟨Z, T, hA, -⟩ := h3.al h2 (by omega) (by omega)
  have h0 : told 0 = nI sz := h2.2.2.1.1
  have s9 := h2.s9
  have bb := h3.bits s9
  have d5 := h2.d512
  have hp8 := h4.1
  have hpg := h4.2.1
  by_cases hv : rX9_isPerson v0 sz = true
  · obtain ⟨q, hq, rfl⟩ := person_n s9 hv
    have hw : rX10_isPerson told (nI q) = true := (person_iff h0 s9).trans hv
    have q9 : q < 9 := by omega
    have ep := place_eq hA hq
    have M1 := MX9_die (w := wC) (al := false) (tl := tl) (tn := nI ty) (rn := rn) (rp := rp) (ki := ki) (ag := ag) (co := co) (pa := pa) (me := me) (wa := wa) (be := be) (pr := pr) (dki := dki) (dag := dag) (dco := dco) (dpa := dpa) (dme := dme) (dso := dso) (drs := drs) (dwa := dwa) (dbe := dbe) (dpr := dpr) (nt := nt) (nm := nI mi) (ns := ns) (np := np) (tnt := tnt) (tnm := tnm) (tnb := tnb) (tnc := tnc) (tnd := tnd) (tns := tns) (tnp := tnp) (pst := pst) (kh := nI kp) (kst := kst) (os := os) (og := og) (oh := nI hd) (cs := cs) (mo := mo) (le := le) (se := se) (pk := pk) (pc := pc) (lf := lf) (ab := ab) (cu := cu) (cd := cd) q s9 bb.1 bb.2.1 bb.2.2 d5 hp8 hpg q9 hv
    have M2 := MX10_die (w := wM) (al := false) (text := text) (typed := nI ty) (told := told) (draft := draft) (s := s) (past := past) (images := images) (kept := nI kp) (notes := notes) (noted := nI hd) (at_ := at_) (alone := alone) (parts := parts) (held := held) q h0 s9 hp8 q9 hw
    have pc5 := (pl_cases h3 h2 (by omega) hq).2.2.2
    by_cases c3 : rX6_placeOf_29 co (nI mi) q bo cr de = 3
    · have e1 : rX9_die co nt (nI mi) ns np pst q bo cr de pn pg = (-2, bo, de, shl pg, pn, pst) := by
        rw [rX9_die, if_pos c3]
      have e2 : rX10_die told s past q pn = (-2, s, past, pn) := by
        rw [rX10_die, ep, c3]
        exact if_neg (by decide)
      rw [e1] at M1
      rw [e2] at M2
      exact LC.mk M1 M2 rfl (Inv.mk h1 h2 (h3.up (Nat.le_succ k) (k60 k)) (h4.up (Nat.le_succ k) (k60 k)) (h5.up (Nat.le_succ k) (k60 k)) h6)
    · by_cases c4 : rX6_placeOf_29 co (nI mi) q bo cr de = 4
      · have e1 : rX9_die co nt (nI mi) ns np pst q bo cr de pn pg = (-2, bo, de, shl pg, pn, pst) := by
          rw [rX9_die, if_neg c3, if_pos c4]
        have e2 : rX10_die told s past q pn = (-2, s, past, pn) := by
          rw [rX10_die, ep, c4]
          exact if_neg (by decide)
        rw [e1] at M1
        rw [e2] at M2
        exact LC.mk M1 M2 rfl (Inv.mk h1 h2 (h3.up (Nat.le_succ k) (k60 k)) (h4.up (Nat.le_succ k) (k60 k)) (h5.up (Nat.le_succ k) (k60 k)) h6)
      · have le2 : rX6_placeOf_29 co (nI mi) q bo cr de ≤ 2 := by
          rcases pc5 with y | y | y | y | y
          · rw [y.1]
            decide
          · rw [y.1]
            decide
          · rw [y.1]
            decide
          · exact absurd y c3
          · exact absurd y c4
        have hS := st_die h3 h2 (by omega) hq c3 c4
        have e1 : rX9_die co nt (nI mi) ns np pst q bo cr de pn pg = (rX6_placeOf_29 co (nI mi) q bo cr de, andN bo (2 ^ q), de ||| 2 ^ q, shl (pgA pg pn), kNx pn, pstA pst pg pn (nt, nI mi, nI bo, nI cr, nI de, ns, np)) := by
          rw [rX9_die, if_neg c3, if_neg c4]
          rfl
        have e2 : rX10_die told s past q pn = (rX6_placeOf_29 co (nI mi) q bo cr de, gup s (nI q) 4, pNx s past pn, kNx pn) := by
          rw [rX10_die, ep, if_pos le2]
        rw [e1] at M1
        rw [e2] at M2
        exact LC.mk M1 M2 rfl (Inv.mk h1 h2 (hS.up (Nat.le_succ k) (k60 k)) ((h4.push h3 s9).up (Nat.le_succ k) (k60 k)) (h5.up (Nat.le_succ k) (k60 k)) h6)
  · have hw : ¬ rX10_isPerson told v0 = true := fun z => hv ((person_iff h0 s9).symm.trans z)
    exact LC.mk (MX9_die_x v0 s9 bb.1 bb.2.1 bb.2.2 d5 hv) (MX10_die_x v0 h0 s9 hp8 hw) rfl (Inv.mk h1 h2 (h3.up (Nat.le_succ k) (k60 k)) (h4.up (Nat.le_succ k) (k60 k)) (h5.up (Nat.le_succ k) (k60 k)) h6)
theorem C_sail {wC wM : gW} {k : Nat} {hc hm : gH} (hk : k < 512) (I : Inv k hc hm) : LC wC wM mX9_sail mX10_sail [] k hc hm := by
  refine I.elim (LC wC wM mX9_sail mX10_sail [] k) ?_
  intro tl rn ki ag co pa me dki dag dco dpa dme nt tnt os og cs mo le se ab text told draft s past images notes alone parts held rp wa be pr dso drs dwa dbe dpr ns np tnm tnb tnc tnd tns tnp pk pc lf cu cd at_ pst kst ty sz hd pn kp W B R mi bo cr de sd pg K A C G osn smn h1 h2 h3 h4 h5 h6
  obtain ⟨Z, T, hA, -⟩ := h3.al h2 (by omega) (by omega)
  have h0 : told 0 = nI sz := h2.2.2.1.1
  have s9 := h2.s9
  have bb := h3.bits s9
  have d5 := h2.d512
  have hp8 := h4.1
  have hpg := h4.2.1
  have ca := sail_cost hA
  have eab := all_bo hA.1 hA.2.1 hA.2.2.1 hA.2.2.2.2
  have M1 := MX9_sail (w := wC) (al := false) (tl := tl) (tn := nI ty) (rn := rn) (rp := rp) (ki := ki) (ag := ag) (co := co) (pa := pa) (me := me) (wa := wa) (be := be) (pr := pr) (dki := dki) (dag := dag) (dco := dco) (dpa := dpa) (dme := dme) (dso := dso) (drs := drs) (dwa := dwa) (dbe := dbe) (dpr := dpr) (nt := nt) (nm := nI mi) (ns := ns) (np := np) (tnt := tnt) (tnm := tnm) (tnb := tnb) (tnc := tnc) (tnd := tnd) (tns := tns) (tnp := tnp) (pst := pst) (kh := nI kp) (kst := kst) (os := os) (og := og) (oh := nI hd) (cs := cs) (mo := mo) (le := le) (se := se) (pk := pk) (pc := pc) (lf := lf) (ab := ab) (cu := cu) (cd := cd) s9 bb.1 bb.2.1 bb.2.2 d5 hp8 hpg
  have M2 := MX10_sail (w := wM) (al := false) (text := text) (typed := nI ty) (told := told) (draft := draft) (s := s) (past := past) (images := images) (kept := nI kp) (notes := notes) (noted := nI hd) (at_ := at_) (alone := alone) (parts := parts) (held := held) h0 s9 hp8
  by_cases c : rX10_sails told s (nI bo) sz = true
  · obtain ⟨n4, ec⟩ := ca.1 c
    have hS := st_goes h3 h2 (by omega) (by omega)
    have e1 : rX9_sail ki ag me wa be pr nt (nI mi) ns np pst sz bo cr de sd pn pg = (rX10_coinsOf told s (nI bo) sz, (gLp (fX6_depart_2_29 ki bo) sz 0 (nt, cr)).1, 0, (gLp (fX6_depart_2_29 ki bo) sz 0 (nt, cr)).2, ns + 1, np + rX10_coinsOf told s (nI bo) sz, shl (pgA pg pn), kNx pn, pstA pst pg pn (nt, nI mi, nI bo, nI cr, nI de, ns, np)) := by
      rw [rX9_sail, if_neg n4, ec]
      rfl
    have e2 : rX10_sail told s past sz pn = (rX10_coinsOf told s (nI bo) sz, (rX10_goes told s sz).2, pNx s past pn, kNx pn) := by
      rw [rX10_sail, eab, if_pos c]
      unfold rX10_goes
      rw [eab]
    rw [e1] at M1
    rw [e2] at M2
    exact LC.mk M1 M2 rfl (Inv.mk h1 h2 (hS.up (Nat.le_refl _) (k60 k)) ((h4.push h3 s9).up (Nat.le_succ k) (k60 k)) (h5.up (Nat.le_succ k) (k60 k)) h6)
  · have e1 : rX9_sail ki ag me wa be pr nt (nI mi) ns np pst sz bo cr de sd pn pg = (-2, nt, bo, cr, ns, np, shl pg, pn, pst) := by
      rw [rX9_sail, if_pos (ca.2 c)]
    have e2 : rX10_sail told s past sz pn = (-2, s, past, pn) := by
      rw [rX10_sail, eab, if_neg c]
    rw [e1] at M1
    rw [e2] at M2
    exact LC.mk M1 M2 rfl (Inv.mk h1 h2 (h3.up (Nat.le_succ k) (k60 k)) (h4.up (Nat.le_succ k) (k60 k)) (h5.up (Nat.le_succ k) (k60 k)) h6)
theorem C_undo {wC wM : gW} {k : Nat} {hc hm : gH} (hk : k < 512) (I : Inv k hc hm) : LC wC wM mX9_undo mX10_undo [] k hc hm := by
  refine I.elim (LC wC wM mX9_undo mX10_undo [] k) ?_
  intro tl rn ki ag co pa me dki dag dco dpa dme nt tnt os og cs mo le se ab text told draft s past images notes alone parts held rp wa be pr dso drs dwa dbe dpr ns np tnm tnb tnc tnd tns tnp pk pc lf cu cd at_ pst kst ty sz hd pn kp W B R mi bo cr de sd pg K A C G osn smn h1 h2 h3 h4 h5 h6
  obtain ⟨Z, T, hA, -⟩ := h3.al h2 (by omega) (by omega)
  have h0 : told 0 = nI sz := h2.2.2.1.1
  have s9 := h2.s9
  have bb := h3.bits s9
  have d5 := h2.d512
  rcases Nat.eq_zero_or_pos pn with y | y
  · subst y
    exact LC.mk MX9_undo_0 MX10_undo_0 rfl (Inv.mk (pn := 0) h1 h2 (h3.up (Nat.le_succ k) (k60 k)) (h4.up (Nat.le_succ k) (k60 k)) (h5.up (Nat.le_succ k) (k60 k)) h6)
  · obtain ⟨j, rfl⟩ : ∃ j, pn = j + 1 := ⟨pn - 1, by omega⟩
    have j8 : j < 8 := by have := h4.1; omega
    obtain ⟨nt2, mi2, bo2, cr2, de2, ns2, np2, e, hS, hP⟩ := h4.pop (s := s) s9 nt
    have n0 : ¬ nI (j + 1) = 0 := fun z => absurd ((nI_eq (b := 0) (by omega) (by decide)).mp z) (by omega)
    have M1 := MX9_undo (w := wC) (al := false) (tl := tl) (tn := nI ty) (rn := rn) (rp := rp) (ki := ki) (ag := ag) (co := co) (pa := pa) (me := me) (so := nI sd) (rs := nI sz) (wa := wa) (be := be) (pr := pr) (dki := dki) (dag := dag) (dco := dco) (dpa := dpa) (dme := dme) (dso := dso) (drs := drs) (dwa := dwa) (dbe := dbe) (dpr := dpr) (nt := nt) (nm := nI mi) (nb := nI bo) (nc := nI cr) (nd := nI de) (ns := ns) (np := np) (tnt := tnt) (tnm := tnm) (tnb := tnb) (tnc := tnc) (tnd := tnd) (tns := tns) (tnp := tnp) (pst := pst) (kh := nI kp) (kst := kst) (os := os) (og := og) (oh := nI hd) (cs := cs) (mo := mo) (le := le) (se := se) (pk := pk) (pc := pc) (lf := lf) (ab := ab) (cu := cu) (cd := cd) j8 h4.2.1
    have M2 := MX10_undo (w := wM) (al := false) (text := text) (typed := nI ty) (told := told) (draft := draft) (s := s) (past := past) (images := images) (kept := nI kp) (notes := notes) (noted := nI hd) (at_ := at_) (alone := alone) (parts := parts) (held := held) j8 n0
    have e1 : rX9_undo nt pst j pg = (nI j, cpN nt2 9 0 nt, nI mi2, nI bo2, nI cr2, nI de2, ns2, np2, j) := by
      rw [rX9_undo, e]
    have e2 : rX10_undo s past j = (nI j, gLp (fX10_undo_22 past j) 21 0 s, j) := rfl
    rw [e1] at M1
    rw [e2] at M2
    exact LC.mk M1 M2 rfl (Inv.mk h1 h2 (hS.up (Nat.le_succ k) (k60 k)) (hP.up (Nat.le_succ k) (k60 k)) (h5.up (Nat.le_succ k) (k60 k)) h6)
theorem C_keep {wC wM : gW} {k : Nat} {hc hm : gH} (hk : k < 512) (I : Inv k hc hm) : LC wC wM mX9_keep mX10_keep [] k hc hm := by
  refine I.elim (LC wC wM mX9_keep mX10_keep [] k) ?_
  intro tl rn ki ag co pa me dki dag dco dpa dme nt tnt os og cs mo le se ab text told draft s past images notes alone parts held rp wa be pr dso drs dwa dbe dpr ns np tnm tnb tnc tnd tns tnp pk pc lf cu cd at_ pst kst ty sz hd pn kp W B R mi bo cr de sd pg K A C G osn smn h1 h2 h3 h4 h5 h6
  obtain ⟨Z, T, hA, -⟩ := h3.al h2 (by omega) (by omega)
  have h0 : told 0 = nI sz := h2.2.2.1.1
  have s9 := h2.s9
  have bb := h3.bits s9
  have d5 := h2.d512
  by_cases c : kp = 2
  · subst c
    exact LC.mk MX9_keep_2 MX10_keep_2 rfl (Inv.mk (kp := 2) h1 h2 (h3.up (Nat.le_succ k) (k60 k)) (h4.up (Nat.le_succ k) (k60 k)) (h5.up (Nat.le_succ k) (k60 k)) h6)
  · have k2 : kp < 2 := by have := h5.1; omega
    have n2 : ¬ nI kp = 2 := fun z => c ((nI_eq (b := 2) (by omega) (by decide)).mp z)
    have M1 := MX9_keep (w := wC) (al := false) (tl := tl) (tn := nI ty) (rn := rn) (rp := rp) (ki := ki) (ag := ag) (co := co) (pa := pa) (me := me) (so := nI sd) (rs := nI sz) (wa := wa) (be := be) (pr := pr) (dki := dki) (dag := dag) (dco := dco) (dpa := dpa) (dme := dme) (dso := dso) (drs := drs) (dwa := dwa) (dbe := dbe) (dpr := dpr) (nt := nt) (nm := nI mi) (nb := nI bo) (nc := nI cr) (nd := nI de) (ns := ns) (np := np) (tnt := tnt) (tnm := tnm) (tnb := tnb) (tnc := tnc) (tnd := tnd) (tns := tns) (tnp := tnp) (pf := shl pg) (ph := nI pn) (pst := pst) (kst := kst) (os := os) (og := og) (oh := nI hd) (cs := cs) (mo := mo) (le := le) (se := se) (pk := pk) (pc := pc) (lf := lf) (ab := ab) (cu := cu) (cd := cd) k2
    have M2 := MX10_keep (w := wM) (al := false) (text := text) (typed := nI ty) (told := told) (draft := draft) (s := s) (past := past) (known := nI pn) (images := images) (notes := notes) (noted := nI hd) (at_ := at_) (alone := alone) (parts := parts) (held := held) k2 n2
    have e1 : rX9_keep nt (nI mi) (nI bo) (nI cr) (nI de) ns np kst kp = (nI (kp + 1), kp + 1, upS kst kp (cpS (nt, nI mi, nI bo, nI cr, nI de, ns, np) (kst kp))) := rfl
    have e2 : rX10_keep s images kp = (nI (kp + 1), gLp (fX10_keep_13 s kp) 21 0 images, kp + 1) := rfl
    rw [e1] at M1
    rw [e2] at M2
    exact LC.mk M1 M2 rfl (Inv.mk h1 h2 (h3.up (Nat.le_succ k) (k60 k)) (h4.up (Nat.le_succ k) (k60 k)) ((h5.push k2 h3 s9).up (Nat.le_succ k) (k60 k)) h6)
theorem C_back {wC wM : gW} {k : Nat} {hc hm : gH} (hk : k < 512) (I : Inv k hc hm) : LC wC wM mX9_back mX10_back [] k hc hm := by
  refine I.elim (LC wC wM mX9_back mX10_back [] k) ?_
  intro tl rn ki ag co pa me dki dag dco dpa dme nt tnt os og cs mo le se ab text told draft s past images notes alone parts held rp wa be pr dso drs dwa dbe dpr ns np tnm tnb tnc tnd tns tnp pk pc lf cu cd at_ pst kst ty sz hd pn kp W B R mi bo cr de sd pg K A C G osn smn h1 h2 h3 h4 h5 h6
  obtain ⟨Z, T, hA, -⟩ := h3.al h2 (by omega) (by omega)
  have h0 : told 0 = nI sz := h2.2.2.1.1
  have s9 := h2.s9
  have bb := h3.bits s9
  have d5 := h2.d512
  rcases Nat.eq_zero_or_pos kp with y | y
  · subst y
    exact LC.mk MX9_back_0 MX10_back_0 rfl (Inv.mk (kp := 0) h1 h2 (h3.up (Nat.le_succ k) (k60 k)) (h4.up (Nat.le_succ k) (k60 k)) (h5.up (Nat.le_succ k) (k60 k)) h6)
  · obtain ⟨j, rfl⟩ : ∃ j, kp = j + 1 := ⟨kp - 1, by omega⟩
    have j2 : j < 2 := by have := h5.1; omega
    obtain ⟨nt2, mi2, bo2, cr2, de2, ns2, np2, e, hS, hP⟩ := h5.pop (s := s) s9 nt
    have n0 : ¬ nI (j + 1) = 0 := fun z => absurd ((nI_eq (b := 0) (by omega) (by decide)).mp z) (by omega)
    have M1 := MX9_back (w := wC) (al := false) (tl := tl) (tn := nI ty) (rn := rn) (rp := rp) (ki := ki) (ag := ag) (co := co) (pa := pa) (me := me) (so := nI sd) (rs := nI sz) (wa := wa) (be := be) (pr := pr) (dki := dki) (dag := dag) (dco := dco) (dpa := dpa) (dme := dme) (dso := dso) (drs := drs) (dwa := dwa) (dbe := dbe) (dpr := dpr) (nt := nt) (nm := nI mi) (nb := nI bo) (nc := nI cr) (nd := nI de) (ns := ns) (np := np) (tnt := tnt) (tnm := tnm) (tnb := tnb) (tnc := tnc) (tnd := tnd) (tns := tns) (tnp := tnp) (pf := shl pg) (ph := nI pn) (pst := pst) (kst := kst) (os := os) (og := og) (oh := nI hd) (cs := cs) (mo := mo) (le := le) (se := se) (pk := pk) (pc := pc) (lf := lf) (ab := ab) (cu := cu) (cd := cd) j2
    have M2 := MX10_back (w := wM) (al := false) (text := text) (typed := nI ty) (told := told) (draft := draft) (s := s) (past := past) (known := nI pn) (images := images) (notes := notes) (noted := nI hd) (at_ := at_) (alone := alone) (parts := parts) (held := held) j2 n0
    have e1 : rX9_back nt kst j = (nI j, cpN nt2 9 0 nt, nI mi2, nI bo2, nI cr2, nI de2, ns2, np2, nI 0, j) := by
      rw [rX9_back, e]
      rfl
    have e2 : rX10_back s images j = (nI j, gLp (fX10_back_22 images j) 21 0 s, nI 0, j) := rfl
    rw [e1] at M1
    rw [e2] at M2
    exact LC.mk M1 M2 rfl (Inv.mk h1 h2 (hS.up (Nat.le_succ k) (k60 k)) (Ps.nil h4) (hP.up (Nat.le_succ k) (k60 k)) h6)
theorem C_day {wC wM : gW} {k : Nat} {hc hm : gH} (hk : k < 512) (v0 : Int32) (v1 : Int32) (v2 : Int32) (I : Inv k hc hm) : LC wC wM mX9_day mX10_day [.int v0, .int v1, .int v2] k hc hm := by
  refine I.elim (LC wC wM mX9_day mX10_day [.int v0, .int v1, .int v2] k) ?_
  intro tl rn ki ag co pa me dki dag dco dpa dme nt tnt os og cs mo le se ab text told draft s past images notes alone parts held rp wa be pr dso drs dwa dbe dpr ns np tnm tnb tnc tnd tns tnp pk pc lf cu cd at_ pst kst ty sz hd pn kp W B R mi bo cr de sd pg K A C G osn smn h1 h2 h3 h4 h5 h6
  obtain ⟨Z, T, hA, -⟩ := h3.al h2 (by omega) (by omega)
  have h0 : told 0 = nI sz := h2.2.2.1.1
  have s9 := h2.s9
  have bb := h3.bits s9
  have d5 := h2.d512
  by_cases a : v0 < 0
  · exact LC.mk (MX9_day_a v0 v1 v2 s9 bb.1 bb.2.1 bb.2.2 d5 a) (MX10_day_z v0 v1 v2 (fun z => (in01.mp z).1 a)) rfl (Inv.mk h1 h2 (h3.up (Nat.le_succ k) (k60 k)) (h4.up (Nat.le_succ k) (k60 k)) (h5.up (Nat.le_succ k) (k60 k)) h6)
  · by_cases b : 9999 < v0
    · exact LC.mk (MX9_day_b v0 v1 v2 s9 bb.1 bb.2.1 bb.2.2 d5 a b) (MX10_day_z v0 v1 v2 (fun z => (in01.mp z).2 b)) rfl (Inv.mk h1 h2 (h3.up (Nat.le_succ k) (k60 k)) (h4.up (Nat.le_succ k) (k60 k)) (h5.up (Nat.le_succ k) (k60 k)) h6)
    · have em : ∀ z, rX10_day_m z = -1 := fun z => by
        unfold rX10_day_m
        split <;> rfl
      by_cases c : v1 < 1
      · exact LC.mk (MX9_day_c v0 v1 v2 s9 bb.1 bb.2.1 bb.2.2 d5 a b c) (MX10_day_m v0 v1 v2 (fun z => (in01.mp z).1 c)) (em v0) (Inv.mk h1 h2 (h3.up (Nat.le_succ k) (k60 k)) (h4.up (Nat.le_succ k) (k60 k)) (h5.up (Nat.le_succ k) (k60 k)) h6)
      · by_cases d : 60 < v1
        · exact LC.mk (MX9_day_d v0 v1 v2 s9 bb.1 bb.2.1 bb.2.2 d5 a b c d) (MX10_day_m v0 v1 v2 (fun z => (in01.mp z).2 d)) (em v0) (Inv.mk h1 h2 (h3.up (Nat.le_succ k) (k60 k)) (h4.up (Nat.le_succ k) (k60 k)) (h5.up (Nat.le_succ k) (k60 k)) h6)
        · obtain ⟨x, hx, rfl⟩ := i_nat a
          obtain ⟨y, hy, rfl⟩ := i_nat (lt1_0 c)
          have x9 : x ≤ 9999 := Nat.not_lt.mp (fun z => b ((nI_ltI (a := 9999) (by decide) hx).mpr z))
          have y6 : y ≤ 60 := Nat.not_lt.mp (fun z => d ((nI_ltI (a := 60) (by decide) hy).mpr z))
          obtain ⟨e1, e2⟩ := eq_day (held := held) (tnt := tnt) (tnm := tnm) (tnb := tnb) (tnc := tnc) (tnd := tnd) (tns := tns) (tnp := tnp) h2 h3 (by omega) (by omega) x9 y6 v2
          exact LC.mk (MX9_day x y v2 s9 bb.1 bb.2.1 bb.2.2 d5 h2.1 x9 y6) (MX10_day x y v2 h0 s9 h2.1 x9 y6) e1 (Inv.mk h1 h2 ((h3.eqv s9 e2 (fun _ _ => rfl)).up (Nat.le_succ k) (k60 k)) (h4.up (Nat.le_succ k) (k60 k)) (h5.up (Nat.le_succ k) (k60 k)) h6)
