/-! calls, returns, switches; from G to a contract -/
theorem gGood {c : Cond} (h : c ∈ gTs) : GoodIn gTs (c :: gTs) := fun q hq => by
  have hq' : q ∈ gTs := (List.mem_cons.mp hq).elim (fun z => by rw [z]; exact h) id
  exact ⟨hq', good_of_word (List.mem_filter.mp hq').2⟩
theorem gA_eq {w : gW} {al : Bool} {n n' : Nat} (h : al = false → n' = n) (q : Nat) (z : gA w al n' q) : gA w al n q := by
  refine ⟨z.1, ?_⟩
  cases al with
  | true => exact Or.inl rfl
  | false => rw [← h rfl]; exact z.2
theorem gHd.eqn {w : gW} {al : Bool} {n n' : Nat} {h : gH} {H : Heap} (hn : al = false → n' = n) (z : gHd w al n' h H) : gHd w al n h H := ⟨z.1, z.2.1, fun q => by rw [← hn q]; exact z.2.2 q⟩
theorem gPc_blind {w : gW} {al : Bool} {h : gH} {as : List Value} : FrameBlind (gPc w gT0 al h as) := by
  intro a U g mk q
  obtain ⟨q1, q2, q3, -⟩ := q
  refine ⟨q1, ?_, q3, trivial⟩
  have hv : U.vm.Alike (U.calling g mk a).vm := Vm.Alike.refl U.vm
  exact ⟨va_K.moved hv q2.1, fun c hc => va_Nw.same (u := U) (U := U.calling g mk a) (by have h2 : gIsN c = true := (List.mem_filter.mp hc).2; cases c <;> first | rfl | (simp [gIsN] at h2)) rfl (q2.2.1 c hc), va_AO.moved hv q2.2.2⟩
section GCalls
variable {w : gW} {E : State → Prop} {al : Bool} {n : Nat} {y : gY} {mc ms : Nat} {P : gP} {cs sl : Nat} {h : gH} {pc : Nat} {L st : List Value}
theorem g_back {p : Program} {e : Env} {s : State} {m : MethodId} {args : Array Value} {below : List Frame} {meth : Method} {c : Code} (C : gCt w E al y p s m args meth c) {H : Heap} {locs : List Loc} {ls : Array Slot} (X1 : gHd w al n h H) (X2 : va_S (gA w al n) s.heap H locs) (X3 : gL w y.2.2.1 ls L)
    {mc' ms' : Nat} {P' : gP} {a : Array Value} {S : List Value}
    (hr : va_Run p w.1 e (gRoom y mc ms) s m args below meth c H locs cs sl mc' ms' (F0 m pc ls S) (st.map (gv w)) (gQ w al h.length P' a) (gA w al h.length))
    (kk : ∀ (h1 : gH) (r : Option Value), P' h1 r → G w E al n y mc ms P (cs + mc') (sl + ms') h1 (pc + 3) L (r.toList ++ st)) :
    W p w.1 e (gRoom y mc ms) s m args below meth c H locs cs sl (MQ below (gQ w al n P) args s mc ms (gA w al n)) (F0 m pc ls S) := by
  intro T hT X
  obtain ⟨v, st₀, t, T', L', h0, X', hL', e1, e2, ⟨h1, r, hv, hp, hH, hF⟩, stp⟩ := hr T hT X
  cases hv
  have hn : al = false → h.length = n := X1.2.2
  have hk := kk h1 r hp p e s m args below meth c C T'.heap (locs ++ L') ls (by rw [e1]; exact hH.eqn hn) ?_ X3 T' rfl X'
  · obtain ⟨t2, a1, b1⟩ := hk
    refine ⟨t2, stp t2 ?_, b1⟩
    have e3 : (r.toList ++ st).map (gv w) = (r.map (gv w)).toList ++ st.map (gv w) := by cases r <;> rfl
    rw [e3] at a1
    exact a1
  · obtain ⟨hF1, hF2⟩ := hF
    rw [h0] at hF1 hF2
    refine ⟨Nat.le_trans X2.1 (by rw [e1]; exact hF1), fun q g1 g2 => ?_, fun q hq => ?_⟩
    · rw [e1, hF2 q (Nat.lt_of_lt_of_le g1 X2.1) (fun z => g2 (gA_eq hn q z))]
      exact X2.2.1 q g1 g2
    · rcases List.mem_append.mp hq with g | g
      · exact X2.2.2 q g
      · exact gA_eq hn _ (hL' q g)
theorem gRest {w : gW} {st : List Value} {k : Nat} (h : (st.map fun v => v.category).sum ≤ k) : ((st.map (gv w)).map fun v => v.category).sum ≤ k := by
  rw [List.map_map]
  have e : ((fun v : Value => v.category) ∘ gv w) = fun v => v.category := by funext v; exact gv_cat w v
  rw [e]
  exact h
theorem g_callV {ix a ci : Nat} {y' : gY} {as S fs : List Value} {mc' ms' : Nat} {P' : gP} {r0 : vw_C} (hd : decode y.2.1 pc = .ok (.invokevirtual ix, 3)) (q : Nat) (hq : pc + 3 = q) (hc : gCV y.1.cls ix y' as.length) (hfit : gFit y y') (hM : M w gT0 al y' mc' ms' h (.ref a :: as) P') (hr0 : vwCl[ci]? = some r0) (hcl : y'.1.cls = r0.1) (he : h[a]? = some (.inr (.inr (ci, fs))))
    (hS : as.reverse ++ .ref a :: st = S) (hst : (st.map fun v => v.category).sum ≤ 8) (h1 : cs + mc' ≤ mc) (h2 : sl + ms' ≤ ms)
    (kk : ∀ (h1 : gH) (r : Option Value), P' h1 r → G w E al n y mc ms P (cs + mc') (sl + ms') h1 q L (r.toList ++ st)) : G w E al n y mc ms P cs sl h pc L S := by
  subst hq
  subst hS
  intro p e s m args below meth c C H locs ls X1 X2 X3
  obtain ⟨C1, C2, C3, C4, C5, C6, C7, C8, C9, C10, C11⟩ := id C
  obtain ⟨⟨a1, a2, a3, a4, a5⟩, a6, a7, a8⟩ := hc
  refine g_back (mc' := mc') (ms' := ms') C X1 X2 X3 (va_runV (As := as.map (gv w)) (C := y'.1.cls) ⟨C1, C2, C3, C6, C7⟩ hM ⟨callB_of as.length C7 (gGood a1) rfl rfl rfl (C7 _ a2) (C7 _ a6) ⟨a3, a4, a5⟩ hfit, C7 _ a7, C7 _ a8⟩ ⟨gPc_blind, ?_, fun U hU hW => ⟨rfl, C9.warm hW, ?_, trivial⟩⟩ rfl (by simp) (X3.1) (by simp [gv]) (by simpa [JFrame.monitorRoom] using gRest hst) hd ⟨h1, h2⟩) kk
  · rw [hcl]
    exact va_recv C9.1 X1.1 hr0 (gw_get he)
  · rw [hU]
    exact ⟨X1.1, X1.2.1, fun _ => rfl⟩
theorem g_callVN {ix a ci : Nat} {y' : gY} {host : String} {as S fs : List Value} {mc' ms' : Nat} {P' : gP} {r0 : vw_C} (hd : decode y.2.1 pc = .ok (.invokevirtual ix, 3)) (q : Nat) (hq : pc + 3 = q) (hc : gCVN y.1.cls ix y' as.length host) (hfit : gFit y y') (hM : M w gT0 al y' mc' ms' h (.ref a :: as) P') (hr0 : vwCl[ci]? = some r0) (hcl : y'.1.cls = r0.1) (he : h[a]? = some (.inr (.inr (ci, fs))))
    (hS : as.reverse ++ .ref a :: st = S) (hst : (st.map fun v => v.category).sum ≤ 8) (h1 : cs + mc' ≤ mc) (h2 : sl + ms' ≤ ms)
    (kk : ∀ (h1 : gH) (r : Option Value), P' h1 r → G w E al n y mc ms P (cs + mc') (sl + ms') h1 q L (r.toList ++ st)) : G w E al n y mc ms P cs sl h pc L S := by
  subst hq
  subst hS
  intro p e s m args below meth c C H locs ls X1 X2 X3
  obtain ⟨C1, C2, C3, C4, C5, C6, C7, C8, C9, C10, C11⟩ := id C
  obtain ⟨⟨a1, a2, a3, a4, a5⟩, a6, a7, a8⟩ := hc
  refine g_back (mc' := mc') (ms' := ms') C X1 X2 X3 (va_runVN (As := as.map (gv w)) (C := y'.1.cls) ⟨C1, C2, C3, C6, C7⟩ hM ⟨va_cnB as.length C7 (gGood a1) rfl rfl rfl (C9.2.1 _ a6) (C7 _ a2) ⟨a3, a4, a5⟩ hfit, C7 _ a7, C7 _ a8⟩ ⟨gPc_blind, ?_, fun U hU hW => ⟨rfl, C9.warm hW, ?_, trivial⟩⟩ rfl (by simp) (X3.1) (by simp [gv]) (by simpa [JFrame.monitorRoom] using gRest hst) hd ⟨h1, h2⟩) kk
  · rw [hcl]
    exact va_recv C9.1 X1.1 hr0 (gw_get he)
  · rw [hU]
    exact ⟨X1.1, X1.2.1, fun _ => rfl⟩
theorem g_callS {ix : Nat} {y' : gY} {as S : List Value} {mc' ms' : Nat} {P' : gP} (hd : decode y.2.1 pc = .ok (.invokestatic ix, 3)) (q : Nat) (hq : pc + 3 = q) (hc : gCS y.1.cls ix y' as.length) (hfit : gFit y y') (hM : M w gT0 al y' mc' ms' h as P')
    (hS : as.reverse ++ st = S) (hst : (st.map fun v => v.category).sum ≤ 8) (h1 : cs + mc' ≤ mc) (h2 : sl + ms' ≤ ms)
    (kk : ∀ (h1 : gH) (r : Option Value), P' h1 r → G w E al n y mc ms P (cs + mc') (sl + ms') h1 q L (r.toList ++ st)) : G w E al n y mc ms P cs sl h pc L S := by
  subst hq
  subst hS
  intro p e s m args below meth c C H locs ls X1 X2 X3
  obtain ⟨C1, C2, C3, C4, C5, C6, C7, C8, C9, C10, C11⟩ := id C
  obtain ⟨⟨a1, a2, a3, a4, a5⟩, a6, a7⟩ := hc
  refine g_back (mc' := mc') (ms' := ms') C X1 X2 X3 (va_runS (As := as.map (gv w)) ⟨C1, C2, C3, C6, C7⟩ hM ⟨callB_of as.length C7 (gGood a1) rfl rfl rfl (C7 _ a2) (C7 _ a6) ⟨a3, a4, a5⟩ hfit, C7 _ a7⟩ ⟨gPc_blind, fun U hU hW => ⟨rfl, C9.warm hW, ?_, trivial⟩⟩ rfl (by simp) (X3.1) (by simp) (by simpa [JFrame.monitorRoom] using gRest hst) hd ⟨h1, h2⟩) kk
  rw [hU]
  exact ⟨X1.1, X1.2.1, fun _ => rfl⟩
theorem g_callSN {ix : Nat} {y' : gY} {host : String} {as S : List Value} {mc' ms' : Nat} {P' : gP} (hd : decode y.2.1 pc = .ok (.invokestatic ix, 3)) (q : Nat) (hq : pc + 3 = q) (hc : gCSN y.1.cls ix y' as.length host) (hfit : gFit y y') (hM : M w gT0 al y' mc' ms' h as P')
    (hS : as.reverse ++ st = S) (hst : (st.map fun v => v.category).sum ≤ 8) (h1 : cs + mc' ≤ mc) (h2 : sl + ms' ≤ ms)
    (kk : ∀ (h1 : gH) (r : Option Value), P' h1 r → G w E al n y mc ms P (cs + mc') (sl + ms') h1 q L (r.toList ++ st)) : G w E al n y mc ms P cs sl h pc L S := by
  subst hq
  subst hS
  intro p e s m args below meth c C H locs ls X1 X2 X3
  obtain ⟨C1, C2, C3, C4, C5, C6, C7, C8, C9, C10, C11⟩ := id C
  obtain ⟨⟨a1, a2, a3, a4, a5⟩, a6, a7⟩ := hc
  refine g_back (mc' := mc') (ms' := ms') C X1 X2 X3 (va_runSN (As := as.map (gv w)) ⟨C1, C2, C3, C6, C7⟩ hM ⟨va_cnB as.length C7 (gGood a1) rfl rfl rfl (C9.2.1 _ a6) (C7 _ a2) ⟨a3, a4, a5⟩ hfit, C7 _ a7, trivial⟩ ⟨gPc_blind, fun U hU hW => ⟨rfl, C9.warm hW, ?_, trivial⟩⟩ rfl (by simp) (X3.1) (by simp) (by simpa [JFrame.monitorRoom] using gRest hst) hd ⟨h1, h2⟩) kk
  rw [hU]
  exact ⟨X1.1, X1.2.1, fun _ => rfl⟩
theorem g_callI {ix a : Nat} {yn : MethodName} {yb : ByteArray} {yl yf yk : Nat} {as S : List Value} {mc' ms' : Nat} {P' : gP} (hd : decode y.2.1 pc = .ok (.invokespecial ix, 3)) (q : Nat) (hq : pc + 3 = q) (hc : gCI y.1.cls ix (yn, yb, yl, none, yf, yk) as.length) (hfit : gFit y (yn, yb, yl, none, yf, yk)) (hM : M w gT0 al (yn, yb, yl, none, yf, yk) mc' ms' h (.ref a :: as) P')
    (hS : as.reverse ++ .ref a :: st = S) (hst : (st.map fun v => v.category).sum ≤ 8) (h1 : cs + mc' ≤ mc) (h2 : sl + ms' ≤ ms)
    (kk : ∀ (h1 : gH) (r : Option Value), P' h1 r → G w E al n y mc ms P (cs + mc') (sl + ms') h1 q L (r.toList ++ st)) : G w E al n y mc ms P cs sl h pc L S := by
  subst hq
  subst hS
  intro p e s m args below meth c C H locs ls X1 X2 X3
  obtain ⟨C1, C2, C3, C4, C5, C6, C7, C8, C9, C10, C11⟩ := id C
  obtain ⟨⟨a1, a2, a3, a4, a5⟩, a6, a7, a8, -⟩ := hc
  refine g_back (mc' := mc') (ms' := ms') C X1 X2 X3 (va_runI (As := as.map (gv w)) (b := w.2.2.2.2 + a) ⟨C1, C2, C3, C6, C7⟩ hM ⟨callB_of as.length C7 (gGood a1) rfl rfl rfl (C7 _ a2) (C7 _ a6) ⟨a3, a4, a5⟩ hfit, a8, C7 _ a7⟩ ⟨gPc_blind, fun U hU hW => ⟨rfl, C9.warm hW, ?_, trivial⟩⟩ rfl (by simp) (X3.1) (by simp [gv]) (by simpa [JFrame.monitorRoom] using gRest hst) hd ⟨h1, h2⟩) kk
  rw [hU]
  exact ⟨X1.1, X1.2.1, fun _ => rfl⟩
theorem g_callIN {ix a : Nat} {host : String} {yn : MethodName} {yb : ByteArray} {yl yf yk : Nat} {as S : List Value} {mc' ms' : Nat} {P' : gP} (hd : decode y.2.1 pc = .ok (.invokespecial ix, 3)) (q : Nat) (hq : pc + 3 = q) (hc : gCIN y.1.cls ix (yn, yb, yl, none, yf, yk) as.length host) (hfit : gFit y (yn, yb, yl, none, yf, yk)) (hM : M w gT0 al (yn, yb, yl, none, yf, yk) mc' ms' h (.ref a :: as) P')
    (hS : as.reverse ++ .ref a :: st = S) (hst : (st.map fun v => v.category).sum ≤ 8) (h1 : cs + mc' ≤ mc) (h2 : sl + ms' ≤ ms)
    (kk : ∀ (h1 : gH) (r : Option Value), P' h1 r → G w E al n y mc ms P (cs + mc') (sl + ms') h1 q L (r.toList ++ st)) : G w E al n y mc ms P cs sl h pc L S := by
  subst hq
  subst hS
  intro p e s m args below meth c C H locs ls X1 X2 X3
  obtain ⟨C1, C2, C3, C4, C5, C6, C7, C8, C9, C10, C11⟩ := id C
  obtain ⟨⟨a1, a2, a3, a4, a5⟩, a6, a7, a8, -⟩ := hc
  refine g_back (mc' := mc') (ms' := ms') C X1 X2 X3 (va_runIN (As := as.map (gv w)) (b := w.2.2.2.2 + a) ⟨C1, C2, C3, C6, C7⟩ hM ⟨va_cnB as.length C7 (gGood a1) rfl rfl rfl (C9.2.1 _ a6) (C7 _ a2) ⟨a3, a4, a5⟩ hfit, a8, C7 _ a7⟩ ⟨gPc_blind, fun U hU hW => ⟨rfl, C9.warm hW, ?_, trivial⟩⟩ rfl (by simp) (X3.1) (by simp [gv]) (by simpa [JFrame.monitorRoom] using gRest hst) hd ⟨h1, h2⟩) kk
  rw [hU]
  exact ⟨X1.1, X1.2.1, fun _ => rfl⟩
theorem g_objInit {ix a : Nat} (hd : decode y.2.1 pc = .ok (.invokespecial ix, 3)) (q : Nat) (hq : pc + 3 = q) (h1 : Cond.methodLink y.1.cls ix Lib.objectInit ∈ gTs) (h2 : Cond.instanceMethod Lib.objectInit ∈ gTs) (h3 : Cond.code Lib.objectInit ⟨#[0xb1]⟩ 1 none ∈ gTs) (hf : 1 ≤ y.2.2.2.2.1) (hst : (st.map fun v => v.category).sum ≤ 8) (hl : 20 ≤ y.2.2.2.2.2)
    (kk : G w E al n y mc ms P cs sl h q L st) : G w E al n y mc ms P cs sl h pc L (.ref a :: st) := by
  subst hq
  intro p e s m args below meth c C H locs ls X1 X2 X3
  obtain ⟨C1, C2, C3, C4, C5, C6, C7, C8, C9, C10, C11⟩ := id C
  refine W.objInit C1 C2 C6 (C7 _ h1) (C7 _ h2) (C7 _ h3) rfl (by rw [C3]; exact X3.1) rfl hd hf ?_ (kk p e s m args below meth c C H locs ls X1 X2 X3)
  have := gRest (w := w) hst
  simp [JFrame.monitorRoom] at this ⊢
  show _ ≤ y.2.2.2.2.2
  omega
theorem g_ldc {ix : Nat} (v : Int32) (hd : decode y.2.1 pc = .ok (.ldc ix, 2)) (q : Nat) (hq : pc + 2 = q) (hc : Cond.constant y.1.cls ix v ∈ gTs) (k : G w E al n y mc ms P cs sl h q L (.int v :: st)) : G w E al n y mc ms P cs sl h pc L st := by
  subst hq
  intro p e s m args below meth c C H locs ls X1 X2 X3
  exact lv_ldc C.1 C.2.1 C.2.2.2.2.2.1 (C.2.2.2.2.2.2.1 _ hc) hd (k p e s m args below meth c C H locs ls X1 X2 X3)
theorem g_ldc_w {ix : Nat} (v : Int32) (hd : decode y.2.1 pc = .ok (.ldc_w ix, 3)) (q : Nat) (hq : pc + 3 = q) (hc : Cond.constant y.1.cls ix v ∈ gTs) (k : G w E al n y mc ms P cs sl h q L (.int v :: st)) : G w E al n y mc ms P cs sl h pc L st := by
  subst hq
  intro p e s m args below meth c C H locs ls X1 X2 X3
  exact lv_ldcw C.1 C.2.1 C.2.2.2.2.2.1 (C.2.2.2.2.2.2.1 _ hc) hd (k p e s m args below meth c C H locs ls X1 X2 X3)
theorem g_ldc2 {ix : Nat} (v : Int64) (hd : decode y.2.1 pc = .ok (.ldc2_w ix, 3)) (q : Nat) (hq : pc + 3 = q) (hc : Cond.constantLong y.1.cls ix v ∈ gTs) (k : G w E al n y mc ms P cs sl h q L (.long v :: st)) : G w E al n y mc ms P cs sl h pc L st := by
  subst hq
  intro p e s m args below meth c C H locs ls X1 X2 X3
  exact lv_ldc2 C.1 C.2.1 C.2.2.2.2.2.1 (C.2.2.2.2.2.2.1 _ hc) hd (k p e s m args below meth c C H locs ls X1 X2 X3)
theorem g_ret_aux {p : Program} {s : State} {m : MethodId} {args : Array Value} {meth : Method} {c : Code} {H : Heap} {locs : List Loc} {r : Option Value} (X1 : gHd w al n h H) (X2 : va_S (gA w al n) s.heap H locs) (hP : P h r) : ∀ t : State, t.heap = H → s.WarmedH t.vm → gQ w al n P args s (.returned (r.map (gv w))) t :=
  fun t ht _ => ⟨h, r, rfl, hP, by rw [ht]; exact X1, X2.F ht⟩
theorem g_ireturn {v : Int32} {ty : FieldType} (hd : decode y.2.1 pc = .ok (.ireturn, 1)) (hr : y.2.2.2.1 = some ty) (hn : narrow ty (.int v) = .int v) (h1 : cs ≤ mc) (h2 : sl ≤ ms) (hP : P h (some (.int v))) : G w E al n y mc ms P cs sl h pc L [.int v] := by
  intro p e s m args below meth c C H locs ls X1 X2 X3
  exact W.widen h1 h2 (W.zret C.1 C.2.1 (C.2.2.2.1.trans hr) hn (g_ret_aux (p := p) (m := m) (meth := meth) (c := c) X1 X2 hP) X2.2.2 hd C.2.2.2.2.1)
theorem g_lreturn {v : Int64} (hd : decode y.2.1 pc = .ok (.lreturn, 1)) (hr : y.2.2.2.1 = some .long) (h1 : cs ≤ mc) (h2 : sl ≤ ms) (hP : P h (some (.long v))) : G w E al n y mc ms P cs sl h pc L [.long v] := by
  intro p e s m args below meth c C H locs ls X1 X2 X3
  exact W.widen h1 h2 (W.lret C.1 C.2.1 (C.2.2.2.1.trans hr) (g_ret_aux (p := p) (m := m) (meth := meth) (c := c) X1 X2 hP) X2.2.2 hd C.2.2.2.2.1)
theorem g_areturn {v : Nat} {ty : FieldType} (hd : decode y.2.1 pc = .ok (.areturn, 1)) (hr : y.2.2.2.1 = some ty) (hty : (∃ n, ty = .object n) ∨ ∃ t, ty = .array t) (h1 : cs ≤ mc) (h2 : sl ≤ ms) (hP : P h (some (.ref v))) : G w E al n y mc ms P cs sl h pc L [.ref v] := by
  intro p e s m args below meth c C H locs ls X1 X2 X3
  exact W.widen h1 h2 (W.aret C.1 C.2.1 (C.2.2.2.1.trans hr) hty (Or.inr ⟨_, rfl⟩) (g_ret_aux (p := p) (m := m) (meth := meth) (c := c) X1 X2 hP) X2.2.2 hd C.2.2.2.2.1)
theorem g_areturnN {ty : FieldType} (hd : decode y.2.1 pc = .ok (.areturn, 1)) (hr : y.2.2.2.1 = some ty) (hty : (∃ n, ty = .object n) ∨ ∃ t, ty = .array t) (h1 : cs ≤ mc) (h2 : sl ≤ ms) (hP : P h (some .null)) : G w E al n y mc ms P cs sl h pc L [.null] := by
  intro p e s m args below meth c C H locs ls X1 X2 X3
  exact W.widen h1 h2 (W.aret C.1 C.2.1 (C.2.2.2.1.trans hr) hty (Or.inl rfl) (g_ret_aux (p := p) (m := m) (meth := meth) (c := c) X1 X2 hP) X2.2.2 hd C.2.2.2.2.1)
theorem g_return (hd : decode y.2.1 pc = .ok (.return_, 1)) (hr : y.2.2.2.1 = none) (h1 : cs ≤ mc) (h2 : sl ≤ ms) (hP : P h none) : G w E al n y mc ms P cs sl h pc L [] := by
  intro p e s m args below meth c C H locs ls X1 X2 X3
  exact W.widen h1 h2 (W.vret C.1 C.2.1 (C.2.2.2.1.trans hr) (g_ret_aux (p := p) (m := m) (meth := meth) (c := c) X1 X2 hP) X2.2.2 hd C.2.2.2.2.1)
/-- the cases of a switch -/
def gSw (x : Int32) : List (Int32 × Nat) → Nat → (Nat → Prop) → Prop
  | [], d, F => F d
  | (v, t) :: r, d, F => (x = v → F t) ∧ (¬ x = v → gSw x r d F)
theorem gSw_in {x : Int32} {F : Nat → Prop} {d : Nat} : ∀ (l : List (Int32 × Nat)), gSw x l d F → (∀ q, q ∈ l → x ≠ q.1) → F d
  | [], h, _ => h
  | (v, t) :: r, h, hn => gSw_in r (h.2 (hn (v, t) List.mem_cons_self)) (fun q hq => hn q (List.mem_cons_of_mem _ hq))
theorem gSw_at {x : Int32} {F : Nat → Prop} {d t : Nat} : ∀ (l : List (Int32 × Nat)), gSw x l d F → (l.map (fun q => q.1)).Nodup → (x, t) ∈ l → F t
  | [], _, _, hm => by cases hm
  | (v, t') :: r, h, hn, hm => by
    simp only [List.map_cons, List.nodup_cons] at hn
    rcases List.mem_cons.mp hm with e | hm
    · cases e
      exact h.1 rfl
    · have hne : ¬ x = v := by
        intro e
        apply hn.1
        rw [← e]
        exact List.mem_map.mpr ⟨_, hm, rfl⟩
      exact gSw_at r (h.2 hne) hn.2 hm
/-- a switch's cases as the code has them: from lo on, their places in the code -/
def gSwOk (pc : Nat) (lo : Int) : List Int → List (Int32 × Nat) → Bool
  | [], [] => true
  | o :: os, (v, t) :: r => v.toInt == lo && (pc : Int) + o == (t : Int) && gSwOk pc (lo + 1) os r
  | _, _ => false
theorem gSwOk_at {pc : Nat} : ∀ (os : List Int) (l : List (Int32 × Nat)) (lo : Int), gSwOk pc lo os l = true → ∀ (j : Nat) (o : Int), os[j]? = some o → ∃ v t, (v, t) ∈ l ∧ v.toInt = lo + j ∧ (pc : Int) + o = (t : Int)
  | [], [], lo, _, j, o, hj => by simp at hj
  | [], _ :: _, lo, h, _, _, _ => by simp [gSwOk] at h
  | _ :: _, [], lo, h, _, _, _ => by simp [gSwOk] at h
  | o' :: os, (v, t) :: r, lo, h, j, o, hj => by
    simp only [gSwOk, Bool.and_eq_true, beq_iff_eq] at h
    cases j with
    | zero =>
      rw [List.getElem?_cons_zero] at hj
      cases hj
      exact ⟨v, t, List.mem_cons_self, by rw [h.1.1]; simp, h.1.2⟩
    | succ j =>
      rw [List.getElem?_cons_succ] at hj
      obtain ⟨v', t', h1, h2, h3⟩ := gSwOk_at os r (lo + 1) h.2 j o hj
      exact ⟨v', t', List.mem_cons_of_mem _ h1, by rw [h2]; push_cast; omega, h3⟩
theorem gSwOk_all {pc : Nat} : ∀ (os : List Int) (l : List (Int32 × Nat)) (lo : Int), gSwOk pc lo os l = true → ∀ q, q ∈ l → lo ≤ q.1.toInt ∧ q.1.toInt < lo + os.length
  | [], [], lo, _, q, hq => by cases hq
  | [], _ :: _, lo, h, _, _ => by simp [gSwOk] at h
  | _ :: _, [], lo, h, _, hq => by cases hq
  | o' :: os, (v, t) :: r, lo, h, q, hq => by
    simp only [gSwOk, Bool.and_eq_true, beq_iff_eq] at h
    rcases List.mem_cons.mp hq with e | hq
    · subst e
      simp only [List.length_cons]
      rw [h.1.1]
      push_cast
      omega
    · have := gSwOk_all os r (lo + 1) h.2 q hq
      simp only [List.length_cons]
      push_cast
      omega
theorem g_tsw {dflt lo hi : Int} {offs : Array Int} {len : Nat} {x : Int32} (hd : decode y.2.1 pc = .ok (.tableswitch dflt lo hi offs, len)) (l : List (Int32 × Nat)) (d : Nat) (h1 : gSwOk pc lo offs.toList l = true) (h2 : (l.map (fun q => q.1)).Nodup) (h3 : (pc : Int) + dflt = (d : Int)) (h4 : lo + offs.toList.length = hi + 1)
    (k : gSw x l d (fun t => G w E al n y mc ms P cs sl h t L st)) : G w E al n y mc ms P cs sl h pc L (.int x :: st) := by
  by_cases hx : x.toInt < lo ∨ hi < x.toInt
  · have k1 := gSw_in l k (fun q hq e => by
      have h5 := gSwOk_all _ _ _ h1 q hq
      rw [← e] at h5
      omega)
    intro p e s m args below meth c C H locs ls X1 X2 X3
    exact lv_tableOut C.1 C.2.1 hd hx h3 (k1 p e s m args below meth c C H locs ls X1 X2 X3)
  · have h5 : ¬ x.toInt < lo := fun z => hx (Or.inl z)
    have h6 : ¬ hi < x.toInt := fun z => hx (Or.inr z)
    have h7 : (x.toInt - lo).toNat < offs.toList.length := by omega
    have h8 : offs.toList[(x.toInt - lo).toNat]? = some offs.toList[(x.toInt - lo).toNat] := List.getElem?_eq_getElem h7
    obtain ⟨v, t, g1, g2, g3⟩ := gSwOk_at _ _ _ h1 _ _ h8
    have g4 : v = x := Int32.toInt_inj.mp (by rw [g2]; omega)
    subst g4
    have k1 := gSw_at l k h2 g1
    intro p e s m args below meth c C H locs ls X1 X2 X3
    exact lv_tableIn C.1 C.2.1 hd h5 h6 (by rw [← Array.getElem?_toList]; exact h8) g3 (k1 p e s m args below meth c C H locs ls X1 X2 X3)
theorem g_lsw2 {dflt o1 o2 a1 a2 : Int} {len : Nat} {x : Int32} (hd : decode y.2.1 pc = .ok (.lookupswitch dflt #[(a1, o1), (a2, o2)], len)) (v1 v2 : Int32) (t1 t2 d : Nat) (hv1 : v1.toInt = a1) (hv2 : v2.toInt = a2) (h12 : a1 < a2) (h1 : (pc : Int) + o1 = (t1 : Int)) (h2 : (pc : Int) + o2 = (t2 : Int)) (h3 : (pc : Int) + dflt = (d : Int))
    (k1 : x = v1 → G w E al n y mc ms P cs sl h t1 L st) (k2 : x = v2 → G w E al n y mc ms P cs sl h t2 L st) (k3 : ¬ x = v1 → ¬ x = v2 → G w E al n y mc ms P cs sl h d L st) : G w E al n y mc ms P cs sl h pc L (.int x :: st) := by
  have hs : ((#[(a1, o1), (a2, o2)] : Array (Int × Int)).toList.zip ((#[(a1, o1), (a2, o2)] : Array (Int × Int)).toList.drop 1)).all (fun (a, next) => a.1 < next.1) = true := by simp [h12]
  by_cases e1 : x = v1
  · intro p e s m args below meth c C H locs ls X1 X2 X3
    refine lv_lookup C.1 C.2.1 hd hs (off := o1) ?_ h1 (k1 e1 p e s m args below meth c C H locs ls X1 X2 X3)
    show Op.lookupswitch.offset ((a1, o1) :: _) _ _ = _
    rw [Op.lookupswitch.offset_cons, if_pos (by rw [e1, hv1])]
  · by_cases e2 : x = v2
    · intro p e s m args below meth c C H locs ls X1 X2 X3
      refine lv_lookup C.1 C.2.1 hd hs (off := o2) ?_ h2 (k2 e2 p e s m args below meth c C H locs ls X1 X2 X3)
      show Op.lookupswitch.offset ((a1, o1) :: _) _ _ = _
      rw [lv_osw e1 hv1, Op.lookupswitch.offset_cons, if_pos (by rw [e2, hv2])]
    · intro p e s m args below meth c C H locs ls X1 X2 X3
      refine lv_lookup C.1 C.2.1 hd hs (off := dflt) ?_ h3 (k3 e1 e2 p e s m args below meth c C H locs ls X1 X2 X3)
      show Op.lookupswitch.offset ((a1, o1) :: _) _ _ = _
      rw [lv_osw e1 hv1, lv_osw e2 hv2]
      rfl
end GCalls
/-! entry -/
def gIn : List Value → List Value
  | [] => []
  | v :: r => if v.category = 2 then v :: gF :: gIn r else v :: gIn r
theorem gIn_mem (w : gW) : ∀ (as : List Value) (k i : Nat) (v : Value), (gIn as)[i]? = some v → v ≠ gF → (k + i, gv w v) ∈ lv_args k (as.map (gv w))
  | [], k, i, v, h, _ => by simp [gIn] at h
  | u :: r, k, i, v, h, hv => by
    by_cases hc : u.category = 2
    · rw [gIn, if_pos hc] at h
      rw [List.map_cons, lv_args, if_pos ((gv_cat w u).trans hc)]
      cases i with
      | zero =>
        rw [List.getElem?_cons_zero] at h
        cases h
        exact List.mem_cons_self
      | succ i =>
        cases i with
        | zero =>
          rw [List.getElem?_cons_succ, List.getElem?_cons_zero] at h
          cases h
          exact absurd rfl hv
        | succ i =>
          rw [List.getElem?_cons_succ, List.getElem?_cons_succ] at h
          have := gIn_mem w r (k + 2) i v h hv
          rw [show k + (i + 1 + 1) = k + 2 + i by omega]
          exact List.mem_cons_of_mem _ this
    · rw [gIn, if_neg hc] at h
      rw [List.map_cons, lv_args, if_neg (by rw [gv_cat]; exact hc)]
      cases i with
      | zero =>
        rw [List.getElem?_cons_zero] at h
        cases h
        exact List.mem_cons_self
      | succ i =>
        rw [List.getElem?_cons_succ] at h
        have := gIn_mem w r (k + 1) i v h hv
        rw [show k + (i + 1) = k + 1 + i by omega]
        exact List.mem_cons_of_mem _ this
theorem gIn_len (w : gW) : ∀ (as : List Value), (lg_sl (as.map (gv w))).length = (gIn as).length
  | [] => rfl
  | u :: r => by
    have ih := gIn_len w r
    unfold lg_sl at ih ⊢
    by_cases hc : u.category = 2
    · rw [gIn, if_pos hc, List.map_cons, List.flatMap_cons, if_pos ((gv_cat w u).trans hc)]
      simp only [List.length_append, List.length_cons, List.length_nil]
      rw [ih]; omega
    · rw [gIn, if_neg hc, List.map_cons, List.flatMap_cons, if_neg (by rw [gv_cat]; exact hc)]
      simp only [List.length_append, List.length_cons, List.length_nil]
      rw [ih]; omega
/-- a contract out of the frame at its start -/
theorem M.of {w : gW} {E : State → Prop} {al : Bool} {y : gY} {mc ms : Nat} {h : gH} {as : List Value} {P : gP} (hp : plainName y.1.cls = true) (hl : (gIn as).length ≤ y.2.2.1) {L0 : List Value} (hL : gIn as ++ List.replicate (y.2.2.1 - (gIn as).length) gF = L0)
    (k : G w E al h.length y mc ms P 0 0 h 0 L0 []) : M w E al y mc ms h as P := by
  refine Met.ofW (cc := y.2.1) (maxL := y.2.2.1) (ret := y.2.2.2.1) hp rfl ?_
  intro p e s m args below meth c s₁ B hml hv
  obtain ⟨rfl, hcx, hhd, hE⟩ := hv
  have hts := atoms_spec (ws := .code y.1 y.2.1 y.2.2.1 y.2.2.2.1 :: gTs) B.pre
  have hown : s.vm.findClass y.1.cls = some m.cls := findClass_of_methodNamed B.named
  have hin := (name_of_methodNamed B.named B.method).1
  rw [lg_entry_eq]
  have hle : (lg_sl (as.map (gv w))).length ≤ y.2.2.1 := by rw [gIn_len]; exact hl
  have hent := lv_entry (as.map (gv w)) (n := y.2.2.1) hle
  have hS : va_S (gA w al h.length) s.heap s.heap [] := va_S.rf
  refine k p e s m _ below meth c ⟨B.exec, B.bytes, hml, B.returns, B.notSynchronized, hown, fun q hq => hts q (List.mem_cons_of_mem _ hq), hin, hcx, fun z => by rw [hhd.2.1 z]; omega, hE⟩ s.heap [] _ hhd hS ⟨hent.1, hent.2.1, ?_, fun i v hi hv => ?_⟩
  · rw [← hL]; simp; omega
  · rw [← hL] at hi
    by_cases hlt : i < (gIn as).length
    · rw [List.getElem?_append_left hlt] at hi
      have := gIn_mem w as 0 i v hi hv
      rw [Nat.zero_add] at this
      exact hent.2.2 _ this
    · rw [List.getElem?_append_right (by omega)] at hi
      exact absurd (List.eq_of_mem_replicate (List.mem_of_getElem? hi)) hv
/-- fewer locals known -/
def gFg : List Value → List Value → Prop
  | [], [] => True
  | a :: l, b :: m => (b = a ∨ b = gF) ∧ gFg l m
  | _, _ => False
theorem gFg_at : ∀ (l m : List Value), gFg l m → l.length = m.length ∧ ∀ (i : Nat) (v : Value), m[i]? = some v → v ≠ gF → l[i]? = some v
  | [], [], _ => ⟨rfl, fun i v h => by simp at h⟩
  | [], _ :: _, h => by simp [gFg] at h
  | _ :: _, [], h => by simp [gFg] at h
  | a :: l, b :: m, h => by
    obtain ⟨h1, h2⟩ := h
    obtain ⟨h3, h4⟩ := gFg_at l m h2
    refine ⟨by simp [h3], fun i v hv hn => ?_⟩
    cases i with
    | zero =>
      rw [List.getElem?_cons_zero] at hv ⊢
      cases hv
      rcases h1 with h1 | h1
      · rw [h1]
      · exact absurd h1 hn
    | succ i =>
      rw [List.getElem?_cons_succ] at hv ⊢
      exact h4 i v hv hn
theorem g_fgt {w : gW} {E : State → Prop} {al : Bool} {n : Nat} {y : gY} {mc ms : Nat} {P : gP} {cs sl : Nat} {h : gH} {pc : Nat} {L st : List Value} {L' : List Value} (hf : gFg L L') (k : G w E al n y mc ms P cs sl h pc L' st) : G w E al n y mc ms P cs sl h pc L st := by
  obtain ⟨f1, f2⟩ := gFg_at L L' hf
  intro p e s m args below meth c C H locs ls X1 X2 X3
  exact k p e s m args below meth c C H locs ls X1 X2 ⟨X3.1, X3.2.1, by rw [← f1]; exact X3.2.2.1, fun i v hi hv => X3.2.2.2 i v (f2 i v hi hv) hv⟩
