/-! the judgement G: a method's frame over a heap that is a list; contexts, addresses and counters of the machine are hidden behind it -/
abbrev gE : Type := (Nat × (Int32 → Int32)) ⊕ ((Nat × (Nat → Option Nat)) ⊕ (Nat × List Value))
abbrev gH : Type := List gE
/-- launch, classes' numbers, the class of int arrays, the class of State arrays, the base of the heap's list -/
abbrev gW : Type := Launch × va_G × ClassId × ClassId × Nat
/-- a method: name, bytes, locals, answer; frames and locals that it needs below it -/
abbrev gY : Type := MethodName × ByteArray × Nat × Option FieldType × Nat × Nat
abbrev gz (w : gW) : Nat := w.2.2.2.2
def gF : Value := .float 0
def gv (w : gW) : Value → Value
  | .ref k => .ref (w.2.2.2.2 + k)
  | v => v
def ge (w : gW) : gE → va_E
  | .inl (n, f) => .inl (w.2.2.1, n, .inl (fun j => f (nI j)))
  | .inr (.inl (n, f)) => .inl (w.2.2.2.1, n, .inr (.inr (.inr (.inr (fun j => (f j).map (fun k => w.2.2.2.2 + k))))))
  | .inr (.inr (ci, fs)) => .inr (ci, fs.map (gv w))
def gw (w : gW) (h : gH) : va_W := h.mapIdx (fun k e => (w.2.2.2.2 + k, ge w e))
def gTs : List Cond := lw_tbl.filter goodWord
def gIsN : Cond → Bool
  | .methodLinkNest _ _ _ _ => true
  | _ => false
def gNs : List Cond := lw_tbl.filter gIsN
def gTys (w : gW) : List (ClassId × FieldType) := [(w.2.2.1, .int), (w.2.2.2.1, .object RX6)]
def gCx (w : gW) (U : State) : Prop := va_K w.2.1 vwCl (gTys w) U ∧ (∀ c ∈ gNs, va_Nw c U) ∧ va_AO RX6 U
def gRoom (y : gY) (mc ms : Nat) : Room := { frames := y.2.2.2.2.1, cells := mc, slots := ms, locals := y.2.2.2.2.2 }
def gA (w : gW) (al : Bool) (n : Nat) : Nat → Prop := fun q => w.2.2.2.2 ≤ q ∧ (al = true ∨ q < w.2.2.2.2 + n)
def gHd (w : gW) (al : Bool) (n : Nat) (h : gH) (H : Heap) : Prop := va_P w.2.1 vwCl (gw w h) H ∧ (al = true → H.size = w.2.2.2.2 + h.length) ∧ (al = false → h.length = n)
def gL (w : gW) (nL : Nat) (ls : Array Slot) (L : List Value) : Prop := ls.size = nL ∧ lv_wf ls ∧ L.length = nL ∧ ∀ (i : Nat) (v : Value), L[i]? = some v → v ≠ gF → ls[i]? = some (.val (gv w v))
def gT0 : State → Prop := fun _ => True
abbrev gP : Type := gH → Option Value → Prop
def gQ (w : gW) (al : Bool) (n : Nat) (P : gP) : Array Value → State → Outcome → State → Prop := fun _ st o t => ∃ (h' : gH) (r : Option Value), o = .returned (r.map (gv w)) ∧ P h' r ∧ gHd w al n h' t.heap ∧ va_F (gA w al n) st t
def gPc (w : gW) (E : State → Prop) (al : Bool) (h : gH) (as : List Value) : Array Value → State → Prop := fun v U => v = (as.map (gv w)).toArray ∧ gCx w U ∧ gHd w al h.length h U.heap ∧ E U
/-- the contract of a method from the heap h and the arguments as: P of the heap and the answer behind it -/
def M (w : gW) (E : State → Prop) (al : Bool) (y : gY) (mc ms : Nat) (h : gH) (as : List Value) (P : gP) : Prop :=
  Met w.1 y.1 (.code y.1 y.2.1 y.2.2.1 y.2.2.2.1 :: gTs) (gRoom y mc ms) (gPc w E al h as) (gQ w al h.length P) mc ms (gA w al h.length)
def gCt (w : gW) (E : State → Prop) (al : Bool) (y : gY) (p : Program) (s : State) (m : MethodId) (args : Array Value) (meth : Method) (c : Code) : Prop :=
  p.tables.exec = Jvm.exec ∧ c.code = y.2.1 ∧ c.maxLocals = y.2.2.1 ∧ meth.sig.returnType = y.2.2.2.1 ∧ meth.locks = false ∧ s.vm.findClass y.1.cls = some m.cls ∧ (∀ q ∈ gTs, q.before args s = true) ∧ meth.name = y.1.name ∧ gCx w s ∧ (al = true → w.2.2.2.2 ≤ s.heap.size) ∧ E s
/-- from here the method comes to its end, with P; cs cells and sl slots are new -/
def G (w : gW) (E : State → Prop) (al : Bool) (n : Nat) (y : gY) (mc ms : Nat) (P : gP) (cs sl : Nat) (h : gH) (pc : Nat) (L st : List Value) : Prop :=
  ∀ (p : Program) (e : Env) (s : State) (m : MethodId) (args : Array Value) (below : List Frame) (meth : Method) (c : Code), gCt w E al y p s m args meth c →
    ∀ (H : Heap) (locs : List Loc) (ls : Array Slot), gHd w al n h H → va_S (gA w al n) s.heap H locs → gL w y.2.2.1 ls L →
      W p w.1 e (gRoom y mc ms) s m args below meth c H locs cs sl (MQ below (gQ w al n P) args s mc ms (gA w al n)) (F0 m pc ls (st.map (gv w)))
theorem gw_get {w : gW} {h : gH} {k : Nat} {e : gE} (he : h[k]? = some e) : (gw w h)[k]? = some (w.2.2.2.2 + k, ge w e) := by
  unfold gw
  rw [List.getElem?_mapIdx, he]
  rfl
theorem gw_len (w : gW) (h : gH) : (gw w h).length = h.length := by simp [gw]
theorem gw_set (w : gW) (h : gH) (k : Nat) (e : gE) : gw w (h.set k e) = (gw w h).set k (w.2.2.2.2 + k, ge w e) := by
  apply List.ext_getElem?
  intro i
  by_cases hi : k = i
  · subst hi
    by_cases hk : k < h.length
    · rw [List.getElem?_set_self (by rw [gw_len]; exact hk)]
      exact gw_get (List.getElem?_set_self hk)
    · rw [List.getElem?_eq_none (by rw [gw_len, List.length_set]; omega), List.getElem?_eq_none (by rw [List.length_set, gw_len]; omega)]
  · rw [List.getElem?_set_ne hi]
    simp only [gw, List.getElem?_mapIdx]
    rw [List.getElem?_set_ne hi]
theorem gw_push (w : gW) (h : gH) (e : gE) : gw w (h ++ [e]) = gw w h ++ [(w.2.2.2.2 + h.length, ge w e)] := by
  unfold gw
  rw [List.mapIdx_append]
  simp
theorem gw_D {w : gW} {al : Bool} {n : Nat} {h : gH} (hn : al = false → h.length = n) : va_D (gA w al n) (gw w h) := by
  have key : ∀ (k : Nat) (q : Nat × va_E), (gw w h)[k]? = some q → q.1 = w.2.2.2.2 + k ∧ k < h.length := by
    intro k q hq
    have hl := (List.getElem?_eq_some_iff.mp hq).1
    rw [gw_len] at hl
    have h1 := gw_get (w := w) (List.getElem?_eq_getElem hl)
    rw [hq] at h1
    cases h1
    exact ⟨rfl, hl⟩
  refine ⟨fun i j p q hp hq hpq => ?_, fun k q hq => ?_⟩
  · have := key i p hp
    have := key j q hq
    omega
  · obtain ⟨h1, h2⟩ := key k q hq
    refine ⟨by omega, ?_⟩
    cases al with
    | true => exact Or.inl rfl
    | false => exact Or.inr (by have := hn rfl; omega)
theorem gCx.warm {w : gW} {s U : State} (hW : s.WarmedH U.vm) (h : gCx w s) : gCx w U := by
  refine ⟨va_K.moved hW.alike h.1, fun c hc => ?_, va_AO.moved hW.alike h.2.2⟩
  have h1 := h.2.1 c hc
  have h2 : gIsN c = true := (List.mem_filter.mp hc).2
  cases c <;> first | exact va_Nw.warmM hW h1 | (simp [gIsN] at h2)
theorem gCx.same {w : gW} {s U : State} (hv : s.vm.Alike U.vm) (hW : ∀ c ∈ gNs, va_Nw c U) (h : gCx w s) : gCx w U := ⟨va_K.moved hv h.1, hW, va_AO.moved hv h.2.2⟩
/-- field k of class ci, as class own spells it -/
def gFl (own : String) (ix ci k : Nat) (v : vw_C) : Prop := vwCl[ci]? = some v ∧ (∀ c ∈ u_ws v.1 v.2.1 v.2.2, c ∈ gTs) ∧ k < v.2.2 ∧ Cond.fieldLink own ix (v.2.1 k).1 (v.2.1 k).2.1 (v.2.1 k).2.2.1 ∈ gTs
/-- what a store into it needs -/
def gFw (v : vw_C) : Prop := (∀ a, a < v.2.2 → ∀ b, b < v.2.2 → a ≠ b → (v.2.1 a).2.1 ≠ (v.2.1 b).2.1) ∧ ∃ ty : Nat → FieldType, ∀ k, k < v.2.2 → parseFieldDescriptor (v.2.1 k).2.2.1 = some (ty k)
theorem gT_in {c : Cond} (i : Nat) (h : lw_tbl[i]? = some c) (hg : goodWord c = true) : c ∈ gTs := List.mem_filter.mpr ⟨List.mem_of_getElem? h, hg⟩
theorem gN_in {c : Cond} (i : Nat) (h : lw_tbl[i]? = some c) (hg : gIsN c = true) : c ∈ gNs := List.mem_filter.mpr ⟨List.mem_of_getElem? h, hg⟩
/-- a method that can be called with na arguments -/
def gCal (y' : gY) (na : Nat) : Prop := Cond.code y'.1 y'.2.1 y'.2.2.1 y'.2.2.2.1 ∈ gTs ∧ Cond.initialized y'.1.cls ∈ gTs ∧ y'.1.cls ≠ "java/lang/invoke/MethodHandle" ∧ y'.1.cls ≠ "java/lang/invoke/VarHandle" ∧ (parseMethodDescriptor y'.1.desc).map (fun d => d.parameters.length) = some na
abbrev gFit (y y' : gY) : Prop := y'.2.2.2.2.1 + 1 ≤ y.2.2.2.2.1 ∧ 8 + (y'.2.2.1 + 11) + y'.2.2.2.2.2 ≤ y.2.2.2.2.2
def gCV (own : String) (ix : Nat) (y' : gY) (na : Nat) : Prop := gCal y' na ∧ Cond.methodLink own ix y'.1 ∈ gTs ∧ Cond.instanceMethod y'.1 ∈ gTs ∧ Cond.selects y'.1.cls y'.1 y'.1 ∈ gTs
def gCS (own : String) (ix : Nat) (y' : gY) (na : Nat) : Prop := gCal y' na ∧ Cond.methodLink own ix y'.1 ∈ gTs ∧ Cond.static y'.1 ∈ gTs
def gCI (own : String) (ix : Nat) (y' : gY) (na : Nat) : Prop := gCal y' na ∧ Cond.methodLink own ix y'.1 ∈ gTs ∧ Cond.instanceMethod y'.1 ∈ gTs ∧ y'.1.name = "<init>" ∧ y'.2.2.2.1 = none
def gCVN (own : String) (ix : Nat) (y' : gY) (na : Nat) (host : String) : Prop := gCal y' na ∧ Cond.methodLinkNest own ix y'.1 host ∈ gNs ∧ Cond.instanceMethod y'.1 ∈ gTs ∧ Cond.selects y'.1.cls y'.1 y'.1 ∈ gTs
def gCSN (own : String) (ix : Nat) (y' : gY) (na : Nat) (host : String) : Prop := gCal y' na ∧ Cond.methodLinkNest own ix y'.1 host ∈ gNs ∧ Cond.static y'.1 ∈ gTs
def gCIN (own : String) (ix : Nat) (y' : gY) (na : Nat) (host : String) : Prop := gCal y' na ∧ Cond.methodLinkNest own ix y'.1 host ∈ gNs ∧ Cond.instanceMethod y'.1 ∈ gTs ∧ y'.1.name = "<init>" ∧ y'.2.2.2.1 = none
