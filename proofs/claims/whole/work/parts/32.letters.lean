/-! letters and notes -/
theorem C_write {wC wM : gW} {k : Nat} {hc hm : gH} (hk : k < 512) (v0 : Int32) (I : Inv k hc hm) : LC wC wM mX9_write mX10_write [.int v0] k hc hm := by
  refine I.elim (LC wC wM mX9_write mX10_write [.int v0] k) ?_
  intro tl rn ki ag co pa me dki dag dco dpa dme nt tnt os og cs mo le se ab text told draft s past images notes alone parts held rp wa be pr dso drs dwa dbe dpr ns np tnm tnb tnc tnd tns tnp pk pc lf cu cd at_ pst kst ty sz hd pn kp W B R mi bo cr de sd pg K A C G osn smn h1 h2 h3 h4 h5 h6
  have e := eq_write h1 v0
  have M1 := MX9_write (w := wC) (al := false) (tl := tl) (rn := rn) (rp := rp) (ki := ki) (ag := ag) (co := co) (pa := pa) (me := me) (so := nI sd) (rs := nI sz) (wa := wa) (be := be) (pr := pr) (dki := dki) (dag := dag) (dco := dco) (dpa := dpa) (dme := dme) (dso := dso) (drs := drs) (dwa := dwa) (dbe := dbe) (dpr := dpr) (nt := nt) (nm := nI mi) (nb := nI bo) (nc := nI cr) (nd := nI de) (ns := ns) (np := np) (tnt := tnt) (tnm := tnm) (tnb := tnb) (tnc := tnc) (tnd := tnd) (tns := tns) (tnp := tnp) (pf := shl pg) (ph := nI pn) (pst := pst) (kh := nI kp) (kst := kst) (os := os) (og := og) (oh := nI hd) (cs := cs) (mo := mo) (le := le) (se := se) (pk := pk) (pc := pc) (lf := lf) (ab := ab) (cu := cu) (cd := cd) v0 h1.1
  have M2 := MX10_write (w := wM) (al := false) (text := text) (told := told) (draft := draft) (s := s) (past := past) (known := nI pn) (images := images) (kept := nI kp) (notes := notes) (noted := nI hd) (at_ := at_) (alone := alone) (parts := parts) (held := held) v0 h1.1
  rw [e.2.1] at M2
  exact LC.mk M1 M2 e.1 (Inv.mk e.2.2 h2 (h3.up (Nat.le_succ k) (k60 k)) (h4.up (Nat.le_succ k) (k60 k)) (h5.up (Nat.le_succ k) (k60 k)) h6)
theorem C_wipe {wC wM : gW} {k : Nat} {hc hm : gH} (hk : k < 512) (I : Inv k hc hm) : LC wC wM mX9_wipe mX10_wipe [] k hc hm := by
  refine I.elim (LC wC wM mX9_wipe mX10_wipe [] k) ?_
  intro tl rn ki ag co pa me dki dag dco dpa dme nt tnt os og cs mo le se ab text told draft s past images notes alone parts held rp wa be pr dso drs dwa dbe dpr ns np tnm tnb tnc tnd tns tnp pk pc lf cu cd at_ pst kst ty sz hd pn kp W B R mi bo cr de sd pg K A C G osn smn h1 h2 h3 h4 h5 h6
  have M1 := MX9_wipe (w := wC) (al := false) (tl := tl) (rn := rn) (rp := rp) (ki := ki) (ag := ag) (co := co) (pa := pa) (me := me) (so := nI sd) (rs := nI sz) (wa := wa) (be := be) (pr := pr) (dki := dki) (dag := dag) (dco := dco) (dpa := dpa) (dme := dme) (dso := dso) (drs := drs) (dwa := dwa) (dbe := dbe) (dpr := dpr) (nt := nt) (nm := nI mi) (nb := nI bo) (nc := nI cr) (nd := nI de) (ns := ns) (np := np) (tnt := tnt) (tnm := tnm) (tnb := tnb) (tnc := tnc) (tnd := tnd) (tns := tns) (tnp := tnp) (pf := shl pg) (ph := nI pn) (pst := pst) (kh := nI kp) (kst := kst) (os := os) (og := og) (oh := nI hd) (cs := cs) (mo := mo) (le := le) (se := se) (pk := pk) (pc := pc) (lf := lf) (ab := ab) (cu := cu) (cd := cd) h1.1
  have M2 := MX10_wipe (w := wM) (al := false) (text := text) (typed := nI ty) (told := told) (draft := draft) (s := s) (past := past) (known := nI pn) (images := images) (kept := nI kp) (notes := notes) (noted := nI hd) (at_ := at_) (alone := alone) (parts := parts) (held := held) 
  have e1 : (rX9_wipe ty).2 = nI 0 := rfl
  have e2 : (rX10_wipe (nI ty)).2 = nI 0 := rfl
  rw [e1] at M1
  rw [e2] at M2
  have h1' : Tx 0 text tl := ⟨Nat.zero_le _, fun j hj => absurd hj (Nat.not_lt_zero j)⟩
  exact LC.mk M1 M2 rfl (Inv.mk h1' h2 (h3.up (Nat.le_succ k) (k60 k)) (h4.up (Nat.le_succ k) (k60 k)) (h5.up (Nat.le_succ k) (k60 k)) h6)
theorem C_forget {wC wM : gW} {k : Nat} {hc hm : gH} (hk : k < 512) (I : Inv k hc hm) : LC wC wM mX9_forget mX10_forget [] k hc hm := by
  refine I.elim (LC wC wM mX9_forget mX10_forget [] k) ?_
  intro tl rn ki ag co pa me dki dag dco dpa dme nt tnt os og cs mo le se ab text told draft s past images notes alone parts held rp wa be pr dso drs dwa dbe dpr ns np tnm tnb tnc tnd tns tnp pk pc lf cu cd at_ pst kst ty sz hd pn kp W B R mi bo cr de sd pg K A C G osn smn h1 h2 h3 h4 h5 h6
  obtain ⟨Z, T, hA, -⟩ := h3.al h2 (by omega) (by omega)
  have h0 : told 0 = nI sz := h2.2.2.1.1
  have s9 := h2.s9
  have bb := h3.bits s9
  have d5 := h2.d512
  have M1 := MX9_forget (w := wC) (al := false) (tl := tl) (tn := nI ty) (rn := rn) (rp := rp) (ki := ki) (ag := ag) (co := co) (pa := pa) (me := me) (wa := wa) (be := be) (pr := pr) (dki := dki) (dag := dag) (dco := dco) (dpa := dpa) (dme := dme) (dso := dso) (drs := drs) (dwa := dwa) (dbe := dbe) (dpr := dpr) (nt := nt) (nm := nI mi) (ns := ns) (np := np) (tnt := tnt) (tnm := tnm) (tnb := tnb) (tnc := tnc) (tnd := tnd) (tns := tns) (tnp := tnp) (pf := shl pg) (ph := nI pn) (pst := pst) (kh := nI kp) (kst := kst) (os := os) (og := og) (oh := nI hd) (cs := cs) (mo := mo) (le := le) (se := se) (pk := pk) (pc := pc) (lf := lf) (ab := ab) (cu := cu) (cd := cd) s9 bb.1 bb.2.1 bb.2.2 d5
  have M2 := MX10_forget (w := wM) (al := false) (text := text) (typed := nI ty) (told := told) (draft := draft) (s := s) (past := past) (known := nI pn) (images := images) (kept := nI kp) (notes := notes) (noted := nI hd) (at_ := at_) (alone := alone) (parts := parts) (held := held) 
  have e1 : (rX9_forget (nI hd)).2 = nI 0 := rfl
  have e2 : (rX10_forget (nI hd)).2 = nI 0 := rfl
  rw [e1] at M1
  rw [e2] at M2
  have h6' : Nts sz A 0 notes os og osn smn := ⟨Nat.zero_le _, fun j hj => absurd hj (Nat.not_lt_zero j)⟩
  exact LC.mk M1 M2 rfl (Inv.mk h1 h2 (h3.up (Nat.le_succ k) (k60 k)) (h4.up (Nat.le_succ k) (k60 k)) (h5.up (Nat.le_succ k) (k60 k)) h6')
theorem C_tell {wC wM : gW} {k : Nat} {hc hm : gH} (hk : k < 512) (v0 : Int32) (v1 : Int32) (I : Inv k hc hm) : LC wC wM mX9_tell mX10_tell [.int v0, .int v1] k hc hm := by
  refine I.elim (LC wC wM mX9_tell mX10_tell [.int v0, .int v1] k) ?_
  intro tl rn ki ag co pa me dki dag dco dpa dme nt tnt os og cs mo le se ab text told draft s past images notes alone parts held rp wa be pr dso drs dwa dbe dpr ns np tnm tnb tnc tnd tns tnp pk pc lf cu cd at_ pst kst ty sz hd pn kp W B R mi bo cr de sd pg K A C G osn smn h1 h2 h3 h4 h5 h6
  obtain ⟨Z, T, hA, -⟩ := h3.al h2 (by omega) (by omega)
  have h0 : told 0 = nI sz := h2.2.2.1.1
  have s9 := h2.s9
  have bb := h3.bits s9
  have d5 := h2.d512
  have hm := mask_eq h0 s9
  have p9 : 2 ^ sz - 1 < 512 := pow9 s9 (Nat.sub_lt (Nat.two_pow_pos sz) (by decide))
  by_cases a : v0 < 1
  · have M2 := MX10_tell (w := wM) (al := false) (text := text) (typed := nI ty) (told := told) (draft := draft) (s := s) (past := past) (known := nI pn) (images := images) (kept := nI kp) (notes := notes) (at_ := at_) (alone := alone) (parts := parts) (held := held) v0 v1 h6.1
    have e2 : rX10_tell told notes v0 v1 hd = (-1, notes, hd) := by
      rw [rX10_tell, if_neg (fun z => (in01.mp z).1 a)]
    rw [e2] at M2
    exact LC.mk (MX9_tell_a v0 v1 s9 a) M2 rfl (Inv.mk h1 h2 (h3.up (Nat.le_succ k) (k60 k)) (h4.up (Nat.le_succ k) (k60 k)) (h5.up (Nat.le_succ k) (k60 k)) h6)
  · obtain ⟨n, hn, rfl⟩ := i_nat (lt1_0 a)
    have M2 := MX10_tell (w := wM) (al := false) (text := text) (typed := nI ty) (told := told) (draft := draft) (s := s) (past := past) (known := nI pn) (images := images) (kept := nI kp) (notes := notes) (at_ := at_) (alone := alone) (parts := parts) (held := held) (nI n) v1 h6.1
    by_cases c : rX9_within (nI n) (nI (2 ^ sz - 1)) = true
    · have hb : n < 2 ^ sz := (mask_wi hn).mp c
      have hin : rX10_in (nI n) 1 (((1 : Int32) <<< ((told 0) &&& 31)) - 1) = true := by
        rw [hm]
        exact in01.mpr ⟨a, fun z => absurd ((nI_ltI (by omega) (by omega)).mp z) (by omega)⟩
      by_cases f : hd = 5
      · have M1 := MX9_tell_5 (w := wC) (al := false) (tl := tl) (tn := nI ty) (rn := rn) (rp := rp) (ki := ki) (ag := ag) (co := co) (pa := pa) (me := me) (so := nI sd) (wa := wa) (be := be) (pr := pr) (dki := dki) (dag := dag) (dco := dco) (dpa := dpa) (dme := dme) (dso := dso) (drs := drs) (dwa := dwa) (dbe := dbe) (dpr := dpr) (nt := nt) (nm := nI mi) (nb := nI bo) (nc := nI cr) (nd := nI de) (ns := ns) (np := np) (tnt := tnt) (tnm := tnm) (tnb := tnb) (tnc := tnc) (tnd := tnd) (tns := tns) (tnp := tnp) (pf := shl pg) (ph := nI pn) (pst := pst) (kh := nI kp) (kst := kst) (os := os) (og := og) (cs := cs) (mo := mo) (le := le) (se := se) (pk := pk) (pc := pc) (lf := lf) (ab := ab) (cu := cu) (cd := cd) n v1 s9 (pow9 s9 hb) a c
        have f5 : nI hd = 5 := by rw [f]; rfl
        have e2 : rX10_tell told notes (nI n) v1 hd = (rX9_tell_5 v1, notes, hd) := by
          unfold rX10_tell rX9_tell_5
          rw [if_pos hin]
          by_cases d1 : v1 < 0
          · rw [if_neg (fun z => (in01.mp z).1 d1), if_pos d1]
          · by_cases d2 : v1 ≤ 999
            · rw [if_pos (in01.mpr ⟨d1, fun z => absurd d2 (Int32.not_le.mpr z)⟩), if_neg d1, if_pos d2, if_pos f5]
            · rw [if_neg (fun z => (in01.mp z).2 (Int32.not_le.mp d2)), if_neg d1, if_neg d2]
        rw [e2] at M2
        have h6' := h6
        subst f
        exact LC.mk M1 M2 rfl (Inv.mk h1 h2 (h3.up (Nat.le_succ k) (k60 k)) (h4.up (Nat.le_succ k) (k60 k)) (h5.up (Nat.le_succ k) (k60 k)) h6)
      · have h5' : hd < 5 := by have := h6.1; omega
        have f5 : ¬ nI hd = 5 := fun z => f ((nI_eq (b := 5) (by omega) (by decide)).mp z)
        have M1 := MX9_tell (w := wC) (al := false) (tl := tl) (tn := nI ty) (rn := rn) (rp := rp) (ki := ki) (ag := ag) (co := co) (pa := pa) (me := me) (so := nI sd) (wa := wa) (be := be) (pr := pr) (dki := dki) (dag := dag) (dco := dco) (dpa := dpa) (dme := dme) (dso := dso) (drs := drs) (dwa := dwa) (dbe := dbe) (dpr := dpr) (nt := nt) (nm := nI mi) (nb := nI bo) (nc := nI cr) (nd := nI de) (ns := ns) (np := np) (tnt := tnt) (tnm := tnm) (tnb := tnb) (tnc := tnc) (tnd := tnd) (tns := tns) (tnp := tnp) (pf := shl pg) (ph := nI pn) (pst := pst) (kh := nI kp) (kst := kst) (os := os) (og := og) (cs := cs) (mo := mo) (le := le) (se := se) (pk := pk) (pc := pc) (lf := lf) (ab := ab) (cu := cu) (cd := cd) n v1 s9 h5' (pow9 s9 hb) a c
        by_cases d1 : v1 < 0
        · have e1 : rX9_tell ag os og n v1 sz hd = (-1, os, og, hd) := by
            rw [rX9_tell, if_pos d1]
          have e2 : rX10_tell told notes (nI n) v1 hd = (-1, notes, hd) := by
            rw [rX10_tell, if_pos hin, if_neg (fun z => (in01.mp z).1 d1)]
          rw [e1] at M1
          rw [e2] at M2
          exact LC.mk M1 M2 rfl (Inv.mk h1 h2 (h3.up (Nat.le_succ k) (k60 k)) (h4.up (Nat.le_succ k) (k60 k)) (h5.up (Nat.le_succ k) (k60 k)) h6)
        · by_cases d2 : v1 ≤ 999
          · obtain ⟨m, hm31, rfl⟩ := i_nat d1
            have m999 : m ≤ 999 := (nI_leI (b := 999) hm31 (by decide)).mp d2
            have ea : rX2_agesOf ag n sz = nI (agS sz A n) := agesOf_eq h2.2.2.2 n
            have e1 : rX9_tell ag os og n (nI m) sz hd = (nI (hd + 1), gup os (nI hd) (nI n), gup og (nI hd) (nI m - nI (agS sz A n)), hd + 1) := by
              rw [rX9_tell, if_neg d1, if_pos d2, ea]
              rfl
            have e2 : rX10_tell told notes (nI n) (nI m) hd = (nI (hd + 1), gup notes (nI hd) (1000 * nI n + nI m), hd + 1) := by
              rw [rX10_tell, if_pos hin, if_pos (in01.mpr ⟨d1, fun z => absurd d2 (Int32.not_le.mpr z)⟩), if_neg f5]
            rw [e1] at M1
            rw [e2] at M2
            exact LC.mk M1 M2 rfl (Inv.mk h1 h2 (h3.up (Nat.le_succ k) (k60 k)) (h4.up (Nat.le_succ k) (k60 k)) (h5.up (Nat.le_succ k) (k60 k)) (tn_push h6 h5' hb m999))
          · have e1 : rX9_tell ag os og n v1 sz hd = (-1, os, og, hd) := by
              rw [rX9_tell, if_neg d1, if_neg d2]
            have e2 : rX10_tell told notes (nI n) v1 hd = (-1, notes, hd) := by
              rw [rX10_tell, if_pos hin, if_neg (fun z => (in01.mp z).2 (Int32.not_le.mp d2))]
            rw [e1] at M1
            rw [e2] at M2
            exact LC.mk M1 M2 rfl (Inv.mk h1 h2 (h3.up (Nat.le_succ k) (k60 k)) (h4.up (Nat.le_succ k) (k60 k)) (h5.up (Nat.le_succ k) (k60 k)) h6)
    · have hin : ¬ rX10_in (nI n) 1 (((1 : Int32) <<< ((told 0) &&& 31)) - 1) = true := by
        rw [hm]
        intro z
        refine c ((mask_wi hn).mpr ?_)
        have z2 := (in01.mp z).2
        have z3 : ¬ 2 ^ sz - 1 < n := fun y => z2 ((nI_ltI (by omega) hn).mpr y)
        have := Nat.two_pow_pos sz
        omega
      have e2 : rX10_tell told notes (nI n) v1 hd = (-1, notes, hd) := by
        rw [rX10_tell, if_neg hin]
      rw [e2] at M2
      exact LC.mk (MX9_tell_b (nI n) v1 s9 a c) M2 rfl (Inv.mk h1 h2 (h3.up (Nat.le_succ k) (k60 k)) (h4.up (Nat.le_succ k) (k60 k)) (h5.up (Nat.le_succ k) (k60 k)) h6)
