/-! rows of G on the heap, calls, returns; from G to a contract -/
/-- an int array with a place written -/
def gup (f : Int32 → Int32) (i x : Int32) : Int32 → Int32 := fun j => if j = i then x else f j
theorem gup_s {f : Int32 → Int32} {i x : Int32} : gup f i x i = x := if_pos rfl
theorem gHd.set {w : gW} {al : Bool} {n k : Nat} {h : gH} {e : gE} {H H1 : Heap} (h0 : gHd w al n h H) (hz : H1.size = H.size) (hP : va_P w.2.1 vwCl (gw w (h.set k e)) H1) : gHd w al n (h.set k e) H1 :=
  ⟨hP, fun z => by rw [hz, List.length_set]; exact h0.2.1 z, fun z => by rw [List.length_set]; exact h0.2.2 z⟩
theorem nI_i {i : Int32} {n : Nat} (h : vp_in i n) : nI i.toNatClampNeg = i := by
  have h0 : ¬ i < 0 := fun q => h (Or.inl q)
  obtain ⟨j, hj, rfl⟩ := nI_of h0
  rw [nI_clamp hj]
theorem vp_cell_ext {cA : ClassId} {n : Nat} {f g : Nat → Int32} (h : ∀ j, j < n → f j = g j) : vp_cell cA (n, .inl f) = vp_cell cA (n, .inl g) := by
  rw [vp_cell_i, vp_cell_i]
  unfold arrV
  congr 1
  apply Array.ext
  · simp
  · intro i h1 h2
    simp at h1 h2 ⊢
    exact h i h1
theorem vp_cell_extq {cA : ClassId} {n : Nat} {f g : Nat → Option Nat} (h : ∀ j, j < n → f j = g j) : vp_cell cA (n, .inr (.inr (.inr (.inr f)))) = vp_cell cA (n, .inr (.inr (.inr (.inr g)))) := by
  rw [vp_cell_q, vp_cell_q]
  unfold arrV
  congr 1
  apply Array.ext
  · simp
  · intro i h1 h2
    simp at h1 h2 ⊢
    rw [h i h1]
/-- a world with one array's contents named otherwise -/
theorem va_P.alt {D : va_G} {cl : List vw_C} {ws : va_W} {k a : Nat} {cA : ClassId} {x y : vp_A} {H : Heap} (h : va_P D cl (ws.set k (a, .inl (cA, x))) H) (hc : vp_cell cA x = vp_cell cA y) : va_P D cl (ws.set k (a, .inl (cA, y))) H := by
  intro j q hq
  by_cases hj : k = j
  · subst hj
    have hl : k < ws.length := by
      have := (List.getElem?_eq_some_iff.mp hq).1
      rw [List.length_set] at this
      exact this
    rw [List.getElem?_set_self hl] at hq
    cases hq
    have h1 := h k _ (List.getElem?_set_self hl)
    show H[a]? = some (vp_cell cA y)
    rw [← hc]
    exact h1
  · rw [List.getElem?_set_ne hj] at hq
    exact h j q (by rw [List.getElem?_set_ne hj]; exact hq)
section GHeap
variable {w : gW} {E : State → Prop} {al : Bool} {n : Nat} {y : gY} {mc ms : Nat} {P : gP} {cs sl : Nat} {h : gH} {pc : Nat} {L st : List Value}
theorem g_get {ix ci k a : Nat} {v : Value} {fs : List Value} {r : vw_C} (hd : decode y.2.1 pc = .ok (.getfield ix, 3)) (q : Nat) (hq : pc + 3 = q) (hf : gFl y.1.cls ix ci k r) (he : h[a]? = some (.inr (.inr (ci, fs)))) (hv : fs[k]? = some v)
    (kk : G w E al n y mc ms P cs sl h q L (v :: st)) : G w E al n y mc ms P cs sl h pc L (.ref a :: st) := by
  subst hq
  intro p e s m args below meth c C H locs ls X1 X2 X3
  obtain ⟨f1, f2, f3, f4⟩ := hf
  obtain ⟨C1, C2, C3, C4, C5, C6, C7, C8, C9, C10, C11⟩ := id C
  exact va_get C1 C2 C7 f2 C6 C9.1 X1.1 a (gw_get he) f1 k f3 (C7 _ f4) (fun _ h => h) (by rw [List.getElem?_map, hv]; rfl) hd (kk p e s m args below meth c C H locs ls X1 X2 X3)
theorem g_put {ix ci k a : Nat} {v : Value} {fs : List Value} {r : vw_C} {ty : FieldType} (hd : decode y.2.1 pc = .ok (.putfield ix, 3)) (q : Nat) (hq : pc + 3 = q) (hf : gFl y.1.cls ix ci k r) (hw : gFw r) (hfin : (r.2.1 k).2.2.2 = false) (hty : parseFieldDescriptor (r.2.1 k).2.2.1 = some ty) (hn : narrow ty (gv w v) = gv w v) (hfit : fits ty (gv w v) = true)
    (he : h[a]? = some (.inr (.inr (ci, fs)))) (hl : k < fs.length) {h' : gH} (hh : h.set a (.inr (.inr (ci, fs.set k v))) = h')
    (kk : G w E al n y mc ms P cs sl h' q L st) : G w E al n y mc ms P cs sl h pc L (v :: .ref a :: st) := by
  subst hq
  subst hh
  intro p e s m args below meth c C H locs ls X1 X2 X3
  obtain ⟨hc, hin, hk, f4⟩ := hf
  obtain ⟨hexec, hb, C3, C4, C5, hown, hts, C8, C9, C10, C11⟩ := id C
  obtain ⟨hnm, ty0, hty0⟩ := hw
  obtain ⟨C', T, N⟩ := r
  have hK := C9.1
  have hP := X1.1
  have hD := gw_D (w := w) X1.2.2
  have he' := gw_get (w := w) he
  have hap := va_apart (own := y.1.cls) hts hin ty0 hty0 hnm hK hc
  obtain ⟨r', h1, cell, q1, q2, q3, q4⟩ := hP a _ he'
  have hr : r' = (C', T, N) := Option.some.inj (h1.symm.trans hc)
  subst hr
  obtain ⟨hS, hfc, kC, hkC, hkind⟩ := hK.1 ci _ hc
  obtain ⟨cf, kf, fi, f, hi, hsl⟩ := hS k hk
  have hlay := hts _ (hin _ (u_in_lay hk))
  unfold u_lay at hlay
  rw [if_neg (by rw [hfin]; decide)] at hlay
  have hst := (u_facts hfc hkC (u_lays hts hin hk) hi).1
  have h6 := u_store hfc hkC hkind hlay hi hty hn hfit
  refine W.putK hexec hb (f := f) ⟨hown, hts _ f4, ⟨_, _, _, hi⟩, hst⟩ (by rw [q2]; exact h6) q1 q3 (by rw [hsl]; exact k2_hasslot (q4 k hk)) rfl rfl hd fun H' e1 e2 e3 => ?_
  rw [hsl] at e1 ⊢
  refine kk p e s m args below meth c C H' _ ls (X1.set e2 ?_) (X2.put e2 e3 (hD.2 a _ he')) X3
  rw [gw_set]
  have hlm : k < (fs.map (gv w)).length := by rw [List.length_map]; exact hl
  have e4 : ge w (.inr (.inr (ci, fs.set k v))) = .inr (ci, (fs.map (gv w)).set k (gv w v)) := by simp only [ge, List.map_set]
  rw [e4]
  exact hP.set hD he' ⟨_, hc, t_OB.to (V := updV (vp_V (fs.map (gv w))) k (gv w v)) ⟨_, e1, q2, q3, t_set q4 hap hk (gv w v)⟩ (fun j _ => vp_updV_set hlm (gv w v) j)⟩ e3
theorem g_putF {ix ci k a : Nat} {v : Value} {fs : List Value} {r : vw_C} {ty : FieldType} (hd : decode y.2.1 pc = .ok (.putfield ix, 3)) (q : Nat) (hq : pc + 3 = q) (hf : gFl y.1.cls ix ci k r) (hw : gFw r) (hfin : (r.2.1 k).2.2.2 = true) (hin2 : y.1.name = "<init>") (hdecl : (r.2.1 k).1 = y.1.cls) (hty : parseFieldDescriptor (r.2.1 k).2.2.1 = some ty) (hn : narrow ty (gv w v) = gv w v) (hfit : fits ty (gv w v) = true)
    (he : h[a]? = some (.inr (.inr (ci, fs)))) (hl : k < fs.length) {h' : gH} (hh : h.set a (.inr (.inr (ci, fs.set k v))) = h')
    (kk : G w E al n y mc ms P cs sl h' q L st) : G w E al n y mc ms P cs sl h pc L (v :: .ref a :: st) := by
  subst hq
  subst hh
  intro p e s m args below meth c C H locs ls X1 X2 X3
  obtain ⟨hc, hin, hk, f4⟩ := hf
  obtain ⟨hexec, hb, C3, C4, C5, hown, hts, C8, C9, C10, C11⟩ := id C
  obtain ⟨hnm, ty0, hty0⟩ := hw
  obtain ⟨C', T, N⟩ := r
  have hK := C9.1
  have hP := X1.1
  have hD := gw_D (w := w) X1.2.2
  have he' := gw_get (w := w) he
  have hap := va_apart (own := y.1.cls) hts hin ty0 hty0 hnm hK hc
  obtain ⟨r', h1, cell, q1, q2, q3, q4⟩ := hP a _ he'
  have hr : r' = (C', T, N) := Option.some.inj (h1.symm.trans hc)
  subst hr
  obtain ⟨hS, hfc, kC, hkC, hkind⟩ := hK.1 ci _ hc
  obtain ⟨cf, kf, fi, f, hi, hsl⟩ := hS k hk
  have hlay := hts _ (hin _ (u_in_lay hk))
  unfold u_lay at hlay
  rw [if_pos hfin] at hlay
  have hst := (u_facts hfc hkC (u_lays hts hin hk) hi).1
  have hcf : m.cls = cf := by
    obtain ⟨_, _, c', _, _, _, -, -, hf', -, -, -, hown2, -⟩ := Cond.laysFinal_spec hlay
    have e1 : c' = cf := by have := hi.symm.trans hf'; simp at this; exact this.1.symm
    rw [hdecl] at hown2
    rw [← e1]; exact Option.some.inj (hown.symm.trans hown2)
  have h6 := u_fits hfc hkC hkind (Or.inr hlay) hi hty hn hfit
  refine W.putFinK hexec hb hown (hts _ f4) hi hst hcf (C8.trans hin2) (by rw [q2]; exact h6) q1 q3 (by rw [hsl]; exact k2_hasslot (q4 k hk)) rfl rfl hd fun H' e1 e2 e3 => ?_
  rw [hsl] at e1 ⊢
  refine kk p e s m args below meth c C H' _ ls (X1.set e2 ?_) (X2.put e2 e3 (hD.2 a _ he')) X3
  rw [gw_set]
  have hlm : k < (fs.map (gv w)).length := by rw [List.length_map]; exact hl
  have e4 : ge w (.inr (.inr (ci, fs.set k v))) = .inr (ci, (fs.map (gv w)).set k (gv w v)) := by simp only [ge, List.map_set]
  rw [e4]
  exact hP.set hD he' ⟨_, hc, t_OB.to (V := updV (vp_V (fs.map (gv w))) k (gv w v)) ⟨_, e1, q2, q3, t_set q4 hap hk (gv w v)⟩ (fun j _ => vp_updV_set hlm (gv w v) j)⟩ e3
theorem g_iaload {a N : Nat} {f : Int32 → Int32} {i : Int32} (hd : decode y.2.1 pc = .ok (.iaload, 1)) (q : Nat) (hq : pc + 1 = q) (he : h[a]? = some (.inl (N, f))) (hin : vp_in i N)
    (kk : G w E al n y mc ms P cs sl h q L (.int (f i) :: st)) : G w E al n y mc ms P cs sl h pc L (.int i :: .ref a :: st) := by
  subst hq
  intro p e s m args below meth c C H locs ls X1 X2 X3
  have k1 := kk p e s m args below meth c C H locs ls X1 X2 X3
  have e1 : f i = (fun j => f (nI j)) i.toNatClampNeg := by show f i = f (nI i.toNatClampNeg); rw [nI_i hin]
  rw [e1] at k1
  exact va_iald C.1 C.2.1 C.2.2.2.2.2.2.2.2.1.1 X1.1 a 0 (gw_get he) rfl hin hd k1
theorem g_iaload' {a N : Nat} {f : Int32 → Int32} {i : Int32} (hd : decode y.2.1 pc = .ok (.iaload, 1)) (q : Nat) (hq : pc + 1 = q) (he : h[a]? = some (.inl (N, f))) (hin : vp_in i N) (v : Int32) (hv : f i = v)
    (kk : G w E al n y mc ms P cs sl h q L (.int v :: st)) : G w E al n y mc ms P cs sl h pc L (.int i :: .ref a :: st) := by
  subst hv
  exact g_iaload hd q hq he hin kk
theorem g_iastore {a N : Nat} {f : Int32 → Int32} {i x : Int32} (hd : decode y.2.1 pc = .ok (.iastore, 1)) (q : Nat) (hq : pc + 1 = q) (he : h[a]? = some (.inl (N, f))) (hN : N < 2 ^ 31) (hin : vp_in i N) {h' : gH} (hh : h.set a (.inl (N, gup f i x)) = h')
    (kk : G w E al n y mc ms P cs sl h' q L st) : G w E al n y mc ms P cs sl h pc L (.int x :: .int i :: .ref a :: st) := by
  subst hq
  subst hh
  intro p e s m args below meth c C H locs ls X1 X2 X3
  have hD := gw_D (w := w) X1.2.2
  have he' := gw_get (w := w) he
  refine W.iast C.1 C.2.1 (X1.1 a _ he') ((C.2.2.2.2.2.2.2.2.1.1.2 0 _ rfl).1 N (fun j => .int (f (nI j)))) (fun q => by cases q) (by show ¬ (i < 0 ∨ (arrV _ _ _).slots.size ≤ _); rw [arrV_size]; exact hin) rfl rfl hd fun H1 e z oq => ?_
  refine kk p _ s m args below meth c C H1 _ ls (X1.set z ?_) (X2.put z oq (hD.2 a _ he')) X3
  rw [gw_set]
  refine va_P.alt (x := (N, .inl (upd (fun j => f (nI j)) i.toNatClampNeg x))) (X1.1.set hD he' ?_ oq) (vp_cell_ext fun j hj => ?_)
  · show H1[_]? = some (vp_cell _ _)
    rw [e]
    show some ((vp_cell _ _).setSlot _ _) = _
    rw [vp_cell_i, vp_cell_i, arrV_store]
    congr 2
    funext q
    by_cases hq : q = i.toNatClampNeg
    · subst hq
      simp [updV, upd]
    · simp [updV, upd, hq]
  · show upd (fun j => f (nI j)) i.toNatClampNeg x j = gup f i x (nI j)
    have h2 := nI_i hin
    by_cases hj2 : j = i.toNatClampNeg
    · subst hj2
      simp [upd, gup, h2]
    · have h3 : nI j ≠ i := by
        intro z
        apply hj2
        rw [← z, nI_clamp (by omega)]
      simp [upd, gup, hj2, h3]
theorem g_alen {a N : Nat} {f : Int32 → Int32} (hd : decode y.2.1 pc = .ok (.arraylength, 1)) (q : Nat) (hq : pc + 1 = q) (he : h[a]? = some (.inl (N, f))) (v : Int32) (hv : nI N = v)
    (kk : G w E al n y mc ms P cs sl h q L (.int v :: st)) : G w E al n y mc ms P cs sl h pc L (.ref a :: st) := by
  subst hq
  intro p e s m args below meth c C H locs ls X1 X2 X3
  exact va_alen C.1 C.2.1 C.2.2.2.2.2.2.2.2.1.1 X1.1 a 0 (gw_get he) rfl hv hd (kk p e s m args below meth c C H locs ls X1 X2 X3)
theorem g_alenq {a N : Nat} {f : Nat → Option Nat} (hd : decode y.2.1 pc = .ok (.arraylength, 1)) (q : Nat) (hq : pc + 1 = q) (he : h[a]? = some (.inr (.inl (N, f)))) (v : Int32) (hv : nI N = v)
    (kk : G w E al n y mc ms P cs sl h q L (.int v :: st)) : G w E al n y mc ms P cs sl h pc L (.ref a :: st) := by
  subst hq
  intro p e s m args below meth c C H locs ls X1 X2 X3
  exact va_alen C.1 C.2.1 C.2.2.2.2.2.2.2.2.1.1 X1.1 a 1 (gw_get he) rfl hv hd (kk p e s m args below meth c C H locs ls X1 X2 X3)
theorem g_aaload {a N j : Nat} {f : Nat → Option Nat} {i : Int32} (hd : decode y.2.1 pc = .ok (.aaload, 1)) (q : Nat) (hq : pc + 1 = q) (he : h[a]? = some (.inr (.inl (N, f)))) (hin : vp_in i N) (hj : f i.toNatClampNeg = some j)
    (kk : G w E al n y mc ms P cs sl h q L (.ref j :: st)) : G w E al n y mc ms P cs sl h pc L (.int i :: .ref a :: st) := by
  subst hq
  intro p e s m args below meth c C H locs ls X1 X2 X3
  have k1 := kk p e s m args below meth c C H locs ls X1 X2 X3
  have e1 : (Value.ref (w.2.2.2.2 + j)) = va_rf ((fun j => (f j).map (fun k => w.2.2.2.2 + k)) i.toNatClampNeg) := by simp only [hj]; rfl
  have k2 : W p w.1 e (gRoom y mc ms) s m args below meth c H locs cs sl (MQ below (gQ w al n P) args s mc ms (gA w al n)) (F0 m (pc + 1) ls (Value.ref (w.2.2.2.2 + j) :: st.map (gv w))) := k1
  rw [e1] at k2
  exact va_aldq C.1 C.2.1 C.2.2.2.2.2.2.2.2.1.1 X1.1 a 1 (gw_get he) rfl hin hd k2
theorem g_aastore {a N j : Nat} {f : Nat → Option Nat} {i : Int32} {vs : List Value} (hd : decode y.2.1 pc = .ok (.aastore, 1)) (q : Nat) (hq : pc + 1 = q) (he : h[a]? = some (.inr (.inl (N, f)))) (hin : vp_in i N) (hj : h[j]? = some (.inr (.inr (6, vs)))) {h' : gH} (hh : h.set a (.inr (.inl (N, va_up f i.toNatClampNeg (some j)))) = h')
    (kk : G w E al n y mc ms P cs sl h' q L st) : G w E al n y mc ms P cs sl h pc L (.ref j :: .int i :: .ref a :: st) := by
  subst hq
  subst hh
  intro p e s m args below meth c C H locs ls X1 X2 X3
  have hK := C.2.2.2.2.2.2.2.2.1.1
  have hP := X1.1
  have hD := gw_D (w := w) X1.2.2
  have ha := gw_get (w := w) he
  have hv := gw_get (w := w) hj
  have hlt : i.toNatClampNeg < N := Nat.not_le.mp fun q => hin (Or.inr q)
  have h0 : ¬ i < 0 := fun q => hin (Or.inl q)
  obtain ⟨r', hr', cellV, g1, g2, g3, -⟩ := hP j _ hv
  have hcls := (hK.1 6 _ rfl).2
  obtain ⟨kA, comp, k1, k2, k3, -⟩ := (hK.2 1 _ rfl).2
  have hcomp : comp = w.2.1.1 6 := Option.some.inj (k3.symm.trans hcls.1)
  subst hcomp
  obtain ⟨kC, hkC, -⟩ := hcls.2
  refine W.aast C.1 C.2.1 (hP a _ ha) (fun q h => by cases h) (fun h => by cases h) k1 k2 rfl hkC ⟨h0, by show _ < (arrV _ _ _).slots.size; rw [arrV_size]; exact hlt⟩ g1 (fun q h => by rw [g3] at h; cases h) (by rw [g2]; exact hkC) (by rw [g2]; exact va_assign hcls) rfl rfl hd fun H1 e z oq => ?_
  refine kk p _ s m args below meth c C H1 _ ls (X1.set z ?_) (X2.put z oq (hD.2 a _ ha)) X3
  rw [gw_set]
  refine hP.set hD ha ?_ oq
  show H1[_]? = some (vp_cell _ _)
  rw [e]
  show some ((vp_cell _ _).setSlot _ _) = _
  rw [vp_cell_q, vp_cell_q, arrV_store]
  congr 2
  funext q
  by_cases hq : q = i.toNatClampNeg
  · subst hq
    simp [updV, va_up, va_rf]
  · simp [updV, va_up, hq]
theorem g_new {ix ci : Nat} {r : vw_C} {fs : List Value} (hd : decode y.2.1 pc = .ok (.new ix, 3)) (q : Nat) (hq : pc + 3 = q) (hal : al = true) (hc : vwCl[ci]? = some r) (hin : ∀ c ∈ u_ws r.1 r.2.1 r.2.2, c ∈ gTs) (ty : Nat → FieldType) (hty : ∀ k, k < r.2.2 → parseFieldDescriptor (r.2.1 k).2.2.1 = some (ty k))
    (h1 : Cond.classLink y.1.cls ix r.1 ∈ gTs) (h2 : Cond.instantiable r.1 r.2.2 ∈ gTs) (h3 : Cond.initialized r.1 ∈ gTs) (hfs : ∀ j, j < r.2.2 → defaultValue (ty j) = vp_V fs j) (hfv : fs.map (gv w) = fs) (hcs : cs + 1 ≤ mc) (hsl : sl + r.2.2 ≤ ms) {b : Nat} (hb : h.length = b) {N : Nat} (hN : r.2.2 = N)
    (kk : G w E al n y mc ms P (cs + 1) (sl + N) (h ++ [.inr (.inr (ci, fs))]) q L (.ref b :: st)) : G w E al n y mc ms P cs sl h pc L st := by
  subst hq
  subst hb
  subst hN
  intro p e s m args below meth c C H locs ls X1 X2 X3
  obtain ⟨hexec, hbb, C3, C4, C5, hown, hts, C8, C9, C10, C11⟩ := id C
  have hP := X1.1
  have hKn := C9.1.1 ci _ hc
  have hsz := X1.2.1 hal
  refine W.newcK hexec hbb hown (hts _ h1) (hts _ h2) (hts _ h3) rfl hd hcs hsl hKn.2.1 rfl fun H1 kC hkC e1 z1 o1 => ?_
  have hk : ∀ (k : Nat) (x : Nat × va_E), (gw w h)[k]? = some x → H1[x.1]? = H[x.1]? := fun k x hx => o1 x.1 ((hP k x hx).lt)
  have k1 := kk p e s m args below meth c C H1 locs ls ⟨?_, fun _ => by rw [z1, hsz, List.length_append]; rfl, fun z => by rw [hal] at z; cases z⟩ ⟨Nat.le_trans X2.1 (by omega), fun x h1 h2 => (o1 x (Nat.lt_of_lt_of_le h1 X2.1)).trans (X2.2.1 x h1 h2), X2.2.2⟩ X3
  · have k2 : W p w.1 e (gRoom y mc ms) s m args below meth c H1 locs (cs + 1) (sl + r.2.2) (MQ below (gQ w al n P) args s mc ms (gA w al n)) (F0 m (pc + 3) ls (Value.ref (w.2.2.2.2 + h.length) :: st.map (gv w))) := k1
    rw [← hsz] at k2
    exact k2
  · rw [gw_push]
    refine (hP.kept hk).app (fun k x hx => ?_)
    have hz : k < 1 := (List.getElem?_eq_some_iff.mp hx).1
    rw [show k = 0 by omega] at hx
    cases hx
    refine ⟨_, hc, ?_⟩
    rw [← hsz]
    show t_OB H.size _ _ _ H1 (vp_V (fs.map (gv w)))
    rw [hfv]
    exact (u_born ty hts hin hKn hkC e1 hty).to hfs
theorem g_newa {i : Int32} {N : Nat} (hd : decode y.2.1 pc = .ok (.newarray .int, 2)) (q : Nat) (hq : pc + 2 = q) (hal : al = true) (harr : Cond.arrayClass .int ∈ gTs) (hi : ¬ i < 0) (hN : i.toNatClampNeg = N) (hby : N * 4 ≤ 536870912) (hcs : cs + 1 ≤ mc) (hsl : sl + N ≤ ms) {b : Nat} (hb : h.length = b)
    (kk : G w E al n y mc ms P (cs + 1) (sl + N) (h ++ [.inl (N, fun _ => 0)]) q L (.ref b :: st)) : G w E al n y mc ms P cs sl h pc L (.int i :: st) := by
  subst hq
  subst hb
  intro p e s m args below meth c C H locs ls X1 X2 X3
  obtain ⟨hexec, hbb, C3, C4, C5, hown, hts, C8, C9, C10, C11⟩ := id C
  have hP := X1.1
  have hsz := X1.2.1 hal
  refine va_newaK (atype := .int) hexec hbb (hts _ harr) rfl hd rfl hi hN hby hcs hsl rfl fun H1 cA e1 z1 o1 hAr hNm => ?_
  have hcA : cA = w.2.2.1 := by
    have h5 := (C9.1.2 0 _ rfl).2
    exact Option.some.inj (hNm.symm.trans h5)
  subst hcA
  have hk : ∀ (k : Nat) (x : Nat × va_E), (gw w h)[k]? = some x → H1[x.1]? = H[x.1]? := fun k x hx => o1 x.1 ((hP k x hx).lt)
  have k1 := kk p e s m args below meth c C H1 locs ls ⟨?_, fun _ => by rw [z1, hsz, List.length_append]; rfl, fun z => by rw [hal] at z; cases z⟩ ⟨Nat.le_trans X2.1 (by omega), fun x h1 h2 => (o1 x (Nat.lt_of_lt_of_le h1 X2.1)).trans (X2.2.1 x h1 h2), X2.2.2⟩ X3
  · have k2 : W p w.1 e (gRoom y mc ms) s m args below meth c H1 locs (cs + 1) (sl + N) (MQ below (gQ w al n P) args s mc ms (gA w al n)) (F0 m (pc + 2) ls (Value.ref (w.2.2.2.2 + h.length) :: st.map (gv w))) := k1
    rw [← hsz] at k2
    exact k2
  · rw [gw_push]
    refine (hP.kept hk).app (fun k x hx => ?_)
    have hz : k < 1 := (List.getElem?_eq_some_iff.mp hx).1
    rw [show k = 0 by omega] at hx
    cases hx
    rw [← hsz]
    show H1[H.size]? = some (vp_cell _ _)
    exact e1
theorem g_newq {ix : Nat} {i : Int32} {N : Nat} (hd : decode y.2.1 pc = .ok (.anewarray ix, 3)) (q : Nat) (hq : pc + 3 = q) (hal : al = true) (hcl : Cond.classLink y.1.cls ix RX6 ∈ gTs) (hi : ¬ i < 0) (hN : i.toNatClampNeg = N) (hby : N * 4 ≤ 536870912) (hcs : cs + 1 ≤ mc) (hsl : sl + N ≤ ms) {b : Nat} (hb : h.length = b)
    (kk : G w E al n y mc ms P (cs + 1) (sl + N) (h ++ [.inr (.inl (N, fun _ => none))]) q L (.ref b :: st)) : G w E al n y mc ms P cs sl h pc L (.int i :: st) := by
  subst hq
  subst hb
  subst hN
  intro p e s m args below meth c C H locs ls X1 X2 X3
  obtain ⟨hexec, hbb, C3, C4, C5, hown, hts, C8, C9, C10, C11⟩ := id C
  have hP := X1.1
  have hsz := X1.2.1 hal
  refine W.anew hexec hbb hown (hts _ hcl) (va_AO.use C9.2.2) rfl hd rfl hi hby hcs hsl fun cA kA comp f1 f2 f3 f4 => ?_
  generalize hH1 : H.push ({ cls := cA, slots := Array.replicate i.toNatClampNeg .null, vm := .none } : Cell) = H1
  have z1 : H1.size = H.size + 1 := by rw [← hH1, Array.size_push]
  have e1 : H1[H.size]? = some (arrV cA i.toNatClampNeg (fun _ => .null)) := by rw [← hH1, Array.getElem?_push_size, ← arrV_new]
  have o1 : ∀ q : Nat, q < H.size → H1[q]? = H[q]? := fun q hq => by rw [← hH1, Array.getElem?_push, if_neg (Nat.ne_of_lt hq)]
  have hcA : cA = w.2.2.2.1 := by
    obtain ⟨_, _, _, _, _, h5⟩ := (C9.1.2 1 _ rfl).2
    exact Option.some.inj (f1.symm.trans h5)
  subst hcA
  have hk : ∀ (k : Nat) (x : Nat × va_E), (gw w h)[k]? = some x → H1[x.1]? = H[x.1]? := fun k x hx => o1 x.1 ((hP k x hx).lt)
  have k1 := kk p e s m args below meth c C H1 locs ls ⟨?_, fun _ => by rw [z1, hsz, List.length_append]; rfl, fun z => by rw [hal] at z; cases z⟩ ⟨Nat.le_trans X2.1 (by omega), fun x h1 h2 => (o1 x (Nat.lt_of_lt_of_le h1 X2.1)).trans (X2.2.1 x h1 h2), X2.2.2⟩ X3
  · have k2 : W p w.1 e (gRoom y mc ms) s m args below meth c H1 locs (cs + 1) (sl + i.toNatClampNeg) (MQ below (gQ w al n P) args s mc ms (gA w al n)) (F0 m (pc + 3) ls (Value.ref (w.2.2.2.2 + h.length) :: st.map (gv w))) := k1
    rw [← hsz] at k2
    exact k2
  · rw [gw_push]
    refine (hP.kept hk).app (fun k x hx => ?_)
    have hz : k < 1 := (List.getElem?_eq_some_iff.mp hx).1
    rw [show k = 0 by omega] at hx
    cases hx
    rw [← hsz]
    show H1[H.size]? = some (vp_cell _ _)
    rw [vp_cell_q]
    exact e1
end GHeap
