/-! the methods that look -/
theorem C_best {wC wM : gW} {k : Nat} {hc hm : gH} (hk : k < 512) (v0 : Int32) (I : Inv k hc hm) : LC wC wM mX9_best mX10_best [.int v0] k hc hm := by
  refine I.elim (LC wC wM mX9_best mX10_best [.int v0] k) ?_
  intro tl rn ki ag co pa me dki dag dco dpa dme nt tnt os og cs mo le se ab text told draft s past images notes alone parts held rp wa be pr dso drs dwa dbe dpr ns np tnm tnb tnc tnd tns tnp pk pc lf cu cd at_ pst kst ty sz hd pn kp W B R mi bo cr de sd pg K A C G osn smn h1 h2 h3 h4 h5 h6
  obtain ⟨Z, T, hA, -⟩ := h3.al h2 (by omega) (by omega)
  have h0 : told 0 = nI sz := h2.2.2.1.1
  have s9 := h2.s9
  have bb := h3.bits s9
  have d5 := h2.d512
  exact LC.mk (MX9_best v0 s9 bb.1 bb.2.1 bb.2.2 d5) (MX10_best v0 h0 s9) (eq_best hA v0) (Inv.mk h1 h2 (h3.up (Nat.le_succ k) (k60 k)) (h4.up (Nat.le_succ k) (k60 k)) (h5.up (Nat.le_succ k) (k60 k)) h6)
theorem C_waits {wC wM : gW} {k : Nat} {hc hm : gH} (hk : k < 512) (I : Inv k hc hm) : LC wC wM mX9_waits mX10_waits [] k hc hm := by
  refine I.elim (LC wC wM mX9_waits mX10_waits [] k) ?_
  intro tl rn ki ag co pa me dki dag dco dpa dme nt tnt os og cs mo le se ab text told draft s past images notes alone parts held rp wa be pr dso drs dwa dbe dpr ns np tnm tnb tnc tnd tns tnp pk pc lf cu cd at_ pst kst ty sz hd pn kp W B R mi bo cr de sd pg K A C G osn smn h1 h2 h3 h4 h5 h6
  obtain ⟨Z, T, hA, -⟩ := h3.al h2 (by omega) (by omega)
  have h0 : told 0 = nI sz := h2.2.2.1.1
  have s9 := h2.s9
  have bb := h3.bits s9
  have d5 := h2.d512
  obtain ⟨e1, e2⟩ := eq_waits (cs := cs) hA (by have := h3.1; omega)
  have M2 := MX10_waits (w := wM) (al := false) (text := text) (typed := nI ty) (draft := draft) (s := s) (past := past) (known := nI pn) (images := images) (kept := nI kp) (notes := notes) (noted := nI hd) (at_ := at_) (alone := alone) (parts := parts) (held := held) h0 s9
  rw [e2] at M2
  exact LC.mk (MX9_waits s9 bb.1 bb.2.1 bb.2.2 d5) M2 e1 (Inv.mk h1 h2 (h3.up (Nat.le_succ k) (k60 k)) (h4.up (Nat.le_succ k) (k60 k)) (h5.up (Nat.le_succ k) (k60 k)) h6)
theorem C_sailings {wC wM : gW} {k : Nat} {hc hm : gH} (hk : k < 512) (v0 : Int32) (I : Inv k hc hm) : LC wC wM mX9_sailings mX10_sailings [.int v0] k hc hm := by
  refine I.elim (LC wC wM mX9_sailings mX10_sailings [.int v0] k) ?_
  intro tl rn ki ag co pa me dki dag dco dpa dme nt tnt os og cs mo le se ab text told draft s past images notes alone parts held rp wa be pr dso drs dwa dbe dpr ns np tnm tnb tnc tnd tns tnp pk pc lf cu cd at_ pst kst ty sz hd pn kp W B R mi bo cr de sd pg K A C G osn smn h1 h2 h3 h4 h5 h6
  obtain ⟨Z, T, hA, -⟩ := h3.al h2 (by omega) (by omega)
  have h0 : told 0 = nI sz := h2.2.2.1.1
  have s9 := h2.s9
  have bb := h3.bits s9
  have d5 := h2.d512
  exact LC.mk (MX9_sailings v0 s9 bb.1 bb.2.1 bb.2.2 d5) (MX10_sailings v0 h0 s9) (eq_sail hA alone parts mo le pk pc lf v0) (Inv.mk h1 h2 (h3.up (Nat.le_succ k) (k60 k)) (h4.up (Nat.le_succ k) (k60 k)) (h5.up (Nat.le_succ k) (k60 k)) h6)
theorem C_setsFor {wC wM : gW} {k : Nat} {hc hm : gH} (hk : k < 512) (v0 : Int32) (I : Inv k hc hm) : LC wC wM mX9_setsFor mX10_setsFor [.int v0] k hc hm := by
  refine I.elim (LC wC wM mX9_setsFor mX10_setsFor [.int v0] k) ?_
  intro tl rn ki ag co pa me dki dag dco dpa dme nt tnt os og cs mo le se ab text told draft s past images notes alone parts held rp wa be pr dso drs dwa dbe dpr ns np tnm tnb tnc tnd tns tnp pk pc lf cu cd at_ pst kst ty sz hd pn kp W B R mi bo cr de sd pg K A C G osn smn h1 h2 h3 h4 h5 h6
  obtain ⟨Z, T, hA, -⟩ := h3.al h2 (by omega) (by omega)
  have h0 : told 0 = nI sz := h2.2.2.1.1
  have s9 := h2.s9
  have bb := h3.bits s9
  have d5 := h2.d512
  by_cases hv : rX9_isPerson v0 sz = true
  · obtain ⟨q, hq, rfl⟩ := person_n s9 hv
    have hw : rX10_isPerson told (nI q) = true := (person_iff h0 s9).trans hv
    have q9 : q < 9 := by omega
    exact LC.mk (MX9_setsFor q s9 bb.1 bb.2.1 bb.2.2 d5 q9 hv) (MX10_setsFor q h0 s9 hw) (eq_setsFor hA hq) (Inv.mk h1 h2 (h3.up (Nat.le_succ k) (k60 k)) (h4.up (Nat.le_succ k) (k60 k)) (h5.up (Nat.le_succ k) (k60 k)) h6)
  · have hw : ¬ rX10_isPerson told v0 = true := fun z => hv ((person_iff h0 s9).symm.trans z)
    exact LC.mk (MX9_setsFor_x v0 s9 bb.1 bb.2.1 bb.2.2 d5 hv) (MX10_setsFor_x v0 h0 s9 hw) rfl (Inv.mk h1 h2 (h3.up (Nat.le_succ k) (k60 k)) (h4.up (Nat.le_succ k) (k60 k)) (h5.up (Nat.le_succ k) (k60 k)) h6)
theorem C_oddOnes {wC wM : gW} {k : Nat} {hc hm : gH} (hk : k < 512) (I : Inv k hc hm) : LC wC wM mX9_oddOnes mX10_oddOnes [] k hc hm := by
  refine I.elim (LC wC wM mX9_oddOnes mX10_oddOnes [] k) ?_
  intro tl rn ki ag co pa me dki dag dco dpa dme nt tnt os og cs mo le se ab text told draft s past images notes alone parts held rp wa be pr dso drs dwa dbe dpr ns np tnm tnb tnc tnd tns tnp pk pc lf cu cd at_ pst kst ty sz hd pn kp W B R mi bo cr de sd pg K A C G osn smn h1 h2 h3 h4 h5 h6
  obtain ⟨Z, T, hA, -⟩ := h3.al h2 (by omega) (by omega)
  have h0 : told 0 = nI sz := h2.2.2.1.1
  have s9 := h2.s9
  have bb := h3.bits s9
  have d5 := h2.d512
  exact LC.mk (MX9_oddOnes s9 bb.1 bb.2.1 bb.2.2 d5) (MX10_oddOnes h0 s9) (eq_odd hA) (Inv.mk h1 h2 (h3.up (Nat.le_succ k) (k60 k)) (h4.up (Nat.le_succ k) (k60 k)) (h5.up (Nat.le_succ k) (k60 k)) h6)
theorem C_sums {wC wM : gW} {k : Nat} {hc hm : gH} (hk : k < 512) (v0 : Int32) (I : Inv k hc hm) : LC wC wM mX9_sums mX10_sums [.int v0] k hc hm := by
  refine I.elim (LC wC wM mX9_sums mX10_sums [.int v0] k) ?_
  intro tl rn ki ag co pa me dki dag dco dpa dme nt tnt os og cs mo le se ab text told draft s past images notes alone parts held rp wa be pr dso drs dwa dbe dpr ns np tnm tnb tnc tnd tns tnp pk pc lf cu cd at_ pst kst ty sz hd pn kp W B R mi bo cr de sd pg K A C G osn smn h1 h2 h3 h4 h5 h6
  obtain ⟨Z, T, hA, -⟩ := h3.al h2 (by omega) (by omega)
  have h0 : told 0 = nI sz := h2.2.2.1.1
  have s9 := h2.s9
  have bb := h3.bits s9
  have d5 := h2.d512
  exact LC.mk (MX9_sums v0 s9 bb.1 bb.2.1 bb.2.2 d5) (MX10_sums v0 h0 s9) (eq_sums hA alone se v0) (Inv.mk h1 h2 (h3.up (Nat.le_succ k) (k60 k)) (h4.up (Nat.le_succ k) (k60 k)) (h5.up (Nat.le_succ k) (k60 k)) h6)
theorem C_stays {wC wM : gW} {k : Nat} {hc hm : gH} (hk : k < 512) (v0 : Int32) (v1 : Int32) (I : Inv k hc hm) : LC wC wM mX9_stays mX10_stays [.int v0, .int v1] k hc hm := by
  refine I.elim (LC wC wM mX9_stays mX10_stays [.int v0, .int v1] k) ?_
  intro tl rn ki ag co pa me dki dag dco dpa dme nt tnt os og cs mo le se ab text told draft s past images notes alone parts held rp wa be pr dso drs dwa dbe dpr ns np tnm tnb tnc tnd tns tnp pk pc lf cu cd at_ pst kst ty sz hd pn kp W B R mi bo cr de sd pg K A C G osn smn h1 h2 h3 h4 h5 h6
  obtain ⟨Z, T, hA, -⟩ := h3.al h2 (by omega) (by omega)
  have h0 : told 0 = nI sz := h2.2.2.1.1
  have s9 := h2.s9
  have bb := h3.bits s9
  have d5 := h2.d512
  exact LC.mk (MX9_stays v0 v1 s9 bb.1 bb.2.1 bb.2.2 d5) (MX10_stays v0 v1 h0 s9) (eq_stays hA parts ab cu cd v0 v1) (Inv.mk h1 h2 (h3.up (Nat.le_succ k) (k60 k)) (h4.up (Nat.le_succ k) (k60 k)) (h5.up (Nat.le_succ k) (k60 k)) h6)
theorem C_liar {wC wM : gW} {k : Nat} {hc hm : gH} (hk : k < 512) (I : Inv k hc hm) : LC wC wM mX9_liar mX10_liar [] k hc hm := by
  refine I.elim (LC wC wM mX9_liar mX10_liar [] k) ?_
  intro tl rn ki ag co pa me dki dag dco dpa dme nt tnt os og cs mo le se ab text told draft s past images notes alone parts held rp wa be pr dso drs dwa dbe dpr ns np tnm tnb tnc tnd tns tnp pk pc lf cu cd at_ pst kst ty sz hd pn kp W B R mi bo cr de sd pg K A C G osn smn h1 h2 h3 h4 h5 h6
  obtain ⟨Z, T, hA, -⟩ := h3.al h2 (by omega) (by omega)
  have h0 : told 0 = nI sz := h2.2.2.1.1
  have s9 := h2.s9
  have bb := h3.bits s9
  have d5 := h2.d512
  exact LC.mk (MX9_liar s9 h6.1 (h6.os s9)) (MX10_liar h0 s9 h6.1) (eq_liar hA.1 hA.2.1 hA.2.2.2.1 h6.2) (Inv.mk h1 h2 (h3.up (Nat.le_succ k) (k60 k)) (h4.up (Nat.le_succ k) (k60 k)) (h5.up (Nat.le_succ k) (k60 k)) h6)
theorem C_age {wC wM : gW} {k : Nat} {hc hm : gH} (hk : k < 512) (v0 : Int32) (v1 : Int32) (I : Inv k hc hm) : LC wC wM mX9_age mX10_age [.int v0, .int v1] k hc hm := by
  refine I.elim (LC wC wM mX9_age mX10_age [.int v0, .int v1] k) ?_
  intro tl rn ki ag co pa me dki dag dco dpa dme nt tnt os og cs mo le se ab text told draft s past images notes alone parts held rp wa be pr dso drs dwa dbe dpr ns np tnm tnb tnc tnd tns tnp pk pc lf cu cd at_ pst kst ty sz hd pn kp W B R mi bo cr de sd pg K A C G osn smn h1 h2 h3 h4 h5 h6
  obtain ⟨Z, T, hA, -⟩ := h3.al h2 (by omega) (by omega)
  have h0 : told 0 = nI sz := h2.2.2.1.1
  have s9 := h2.s9
  have bb := h3.bits s9
  have d5 := h2.d512
  by_cases hv : rX9_isPerson v0 sz = true
  · obtain ⟨q, hq, rfl⟩ := person_n s9 hv
    have hw : rX10_isPerson told (nI q) = true := (person_iff h0 s9).trans hv
    have q9 : q < 9 := by omega
    exact LC.mk (MX9_age q v1 h6.1 q9 (h6.os s9) hv) (MX10_age (nI q) v1 h0 s9 h6.1) (eq_age hA.1 hA.2.1 hA.2.2.2.1 h6.2 hq v1 hw) (Inv.mk h1 h2 (h3.up (Nat.le_succ k) (k60 k)) (h4.up (Nat.le_succ k) (k60 k)) (h5.up (Nat.le_succ k) (k60 k)) h6)
  · have hw : ¬ rX10_isPerson told v0 = true := fun z => hv ((person_iff h0 s9).symm.trans z)
    have e : rX10_age told notes v0 v1 sz hd = rX9_age_x := by
      unfold rX10_age
      rw [if_neg hw]
      rfl
    exact LC.mk (MX9_age_x (osn := osn) v0 v1 hv) (MX10_age v0 v1 h0 s9 h6.1) e (Inv.mk h1 h2 (h3.up (Nat.le_succ k) (k60 k)) (h4.up (Nat.le_succ k) (k60 k)) (h5.up (Nat.le_succ k) (k60 k)) h6)
theorem C_person {wC wM : gW} {k : Nat} {hc hm : gH} (hk : k < 512) (v0 : Int32) (v1 : Int32) (I : Inv k hc hm) : LC wC wM mX9_person mX10_person [.int v0, .int v1] k hc hm := by
  refine I.elim (LC wC wM mX9_person mX10_person [.int v0, .int v1] k) ?_
  intro tl rn ki ag co pa me dki dag dco dpa dme nt tnt os og cs mo le se ab text told draft s past images notes alone parts held rp wa be pr dso drs dwa dbe dpr ns np tnm tnb tnc tnd tns tnp pk pc lf cu cd at_ pst kst ty sz hd pn kp W B R mi bo cr de sd pg K A C G osn smn h1 h2 h3 h4 h5 h6
  obtain ⟨Z, T, hA, -⟩ := h3.al h2 (by omega) (by omega)
  have h0 : told 0 = nI sz := h2.2.2.1.1
  have s9 := h2.s9
  have bb := h3.bits s9
  have d5 := h2.d512
  by_cases hv : rX9_isPerson v0 sz = true
  · obtain ⟨q, hq, rfl⟩ := person_n s9 hv
    have hw : rX10_isPerson told (nI q) = true := (person_iff h0 s9).trans hv
    have q9 : q < 9 := by omega
    exact LC.mk (MX9_person q v1 s9 bb.1 bb.2.1 bb.2.2 d5 q9 hv) (MX10_person q v1 hw q9) (eq_person hA hq v1) (Inv.mk h1 h2 (h3.up (Nat.le_succ k) (k60 k)) (h4.up (Nat.le_succ k) (k60 k)) (h5.up (Nat.le_succ k) (k60 k)) h6)
  · have hw : ¬ rX10_isPerson told v0 = true := fun z => hv ((person_iff h0 s9).symm.trans z)
    exact LC.mk (MX9_person_x v0 v1 s9 bb.1 bb.2.1 bb.2.2 d5 hv) (MX10_person_x v0 v1 hw) rfl (Inv.mk h1 h2 (h3.up (Nat.le_succ k) (k60 k)) (h4.up (Nat.le_succ k) (k60 k)) (h5.up (Nat.le_succ k) (k60 k)) h6)
theorem C_sum {wC wM : gW} {k : Nat} {hc hm : gH} (hk : k < 512) (v0 : Int32) (I : Inv k hc hm) : LC wC wM mX9_sum mX10_sum [.int v0] k hc hm := by
  refine I.elim (LC wC wM mX9_sum mX10_sum [.int v0] k) ?_
  intro tl rn ki ag co pa me dki dag dco dpa dme nt tnt os og cs mo le se ab text told draft s past images notes alone parts held rp wa be pr dso drs dwa dbe dpr ns np tnm tnb tnc tnd tns tnp pk pc lf cu cd at_ pst kst ty sz hd pn kp W B R mi bo cr de sd pg K A C G osn smn h1 h2 h3 h4 h5 h6
  obtain ⟨Z, T, hA, -⟩ := h3.al h2 (by omega) (by omega)
  have h0 : told 0 = nI sz := h2.2.2.1.1
  have s9 := h2.s9
  have bb := h3.bits s9
  have d5 := h2.d512
  exact LC.mk (MX9_sum v0 s9 bb.1 bb.2.1 bb.2.2 d5) (MX10_sum v0 h0 s9) (eq_sum hA v0) (Inv.mk h1 h2 (h3.up (Nat.le_succ k) (k60 k)) (h4.up (Nat.le_succ k) (k60 k)) (h5.up (Nat.le_succ k) (k60 k)) h6)
theorem C_count {wC wM : gW} {k : Nat} {hc hm : gH} (hk : k < 512) (v0 : Int32) (I : Inv k hc hm) : LC wC wM mX9_count mX10_count [.int v0] k hc hm := by
  refine I.elim (LC wC wM mX9_count mX10_count [.int v0] k) ?_
  intro tl rn ki ag co pa me dki dag dco dpa dme nt tnt os og cs mo le se ab text told draft s past images notes alone parts held rp wa be pr dso drs dwa dbe dpr ns np tnm tnb tnc tnd tns tnp pk pc lf cu cd at_ pst kst ty sz hd pn kp W B R mi bo cr de sd pg K A C G osn smn h1 h2 h3 h4 h5 h6
  obtain ⟨Z, T, hA, -⟩ := h3.al h2 (by omega) (by omega)
  have h0 : told 0 = nI sz := h2.2.2.1.1
  have s9 := h2.s9
  have bb := h3.bits s9
  have d5 := h2.d512
  exact LC.mk (MX9_count v0 s9 bb.1 bb.2.1 bb.2.2 d5) (MX10_count v0 h0 s9) (eq_count hA h3.2.1 h3.2.2.1 _ _ _ _ v0) (Inv.mk h1 h2 (h3.up (Nat.le_succ k) (k60 k)) (h4.up (Nat.le_succ k) (k60 k)) (h5.up (Nat.le_succ k) (k60 k)) h6)
