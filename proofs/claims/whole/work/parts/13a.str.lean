/-! the text that the class begins with: a String constant, its length, its letters -/
theorem aJ0_length_8abf5 : gCal mJ0_length_8abf5 0 := ⟨gT_in 308 (by decide +kernel) (by decide +kernel), gT_in 51 (by decide +kernel) (by decide +kernel), by decide, by decide, by decide +kernel⟩
theorem aJ0_charAt_5068e : gCal mJ0_charAt_5068e 1 := ⟨gT_in 318 (by decide +kernel) (by decide +kernel), gT_in 51 (by decide +kernel) (by decide +kernel), by decide, by decide, by decide +kernel⟩
theorem aJ0_coder_7d493 : gCal mJ0_coder_7d493 0 := ⟨gT_in 312 (by decide +kernel) (by decide +kernel), gT_in 51 (by decide +kernel) (by decide +kernel), by decide, by decide, by decide +kernel⟩
theorem aJ0_isLatin1_aae02 : gCal mJ0_isLatin1_aae02 0 := ⟨gT_in 322 (by decide +kernel) (by decide +kernel), gT_in 51 (by decide +kernel) (by decide +kernel), by decide, by decide, by decide +kernel⟩
theorem aJ0_checkIndex_df160 : gCal mJ0_checkIndex_df160 2 := ⟨gT_in 328 (by decide +kernel) (by decide +kernel), gT_in 51 (by decide +kernel) (by decide +kernel), by decide, by decide, by decide +kernel⟩
theorem aJ1_charAt_3b067 : gCal mJ1_charAt_3b067 2 := ⟨gT_in 325 (by decide +kernel) (by decide +kernel), gT_in 52 (by decide +kernel) (by decide +kernel), by decide, by decide, by decide +kernel⟩
theorem aJ3_checkIndex_8e157 : gCal mJ3_checkIndex_8e157 3 := ⟨gT_in 333 (by decide +kernel) (by decide +kernel), gT_in 53 (by decide +kernel) (by decide +kernel), by decide, by decide, by decide +kernel⟩
theorem kX9_86 : gCV RX9 86 mJ0_length_8abf5 0 := ⟨aJ0_length_8abf5, gT_in 305 (by decide +kernel) (by decide +kernel), gT_in 306 (by decide +kernel) (by decide +kernel), gT_in 307 (by decide +kernel) (by decide +kernel)⟩
theorem kJ0_335 : gCV RJ0 335 mJ0_coder_7d493 0 := ⟨aJ0_coder_7d493, gT_in 309 (by decide +kernel) (by decide +kernel), gT_in 310 (by decide +kernel) (by decide +kernel), gT_in 311 (by decide +kernel) (by decide +kernel)⟩
theorem kX9_92 : gCV RX9 92 mJ0_charAt_5068e 1 := ⟨aJ0_charAt_5068e, gT_in 315 (by decide +kernel) (by decide +kernel), gT_in 316 (by decide +kernel) (by decide +kernel), gT_in 317 (by decide +kernel) (by decide +kernel)⟩
theorem kJ0_492 : gCV RJ0 492 mJ0_isLatin1_aae02 0 := ⟨aJ0_isLatin1_aae02, gT_in 319 (by decide +kernel) (by decide +kernel), gT_in 320 (by decide +kernel) (by decide +kernel), gT_in 321 (by decide +kernel) (by decide +kernel)⟩
theorem kJ0_495 : gCS RJ0 495 mJ1_charAt_3b067 2 := ⟨aJ1_charAt_3b067, gT_in 323 (by decide +kernel) (by decide +kernel), gT_in 324 (by decide +kernel) (by decide +kernel)⟩
theorem kJ1_9 : gCS RJ1 9 mJ0_checkIndex_df160 2 := ⟨aJ0_checkIndex_df160, gT_in 326 (by decide +kernel) (by decide +kernel), gT_in 327 (by decide +kernel) (by decide +kernel)⟩
theorem kJ0_1059 : gCS RJ0 1059 mJ3_checkIndex_8e157 3 := ⟨aJ3_checkIndex_8e157, gT_in 331 (by decide +kernel) (by decide +kernel), gT_in 332 (by decide +kernel) (by decide +kernel)⟩
theorem lJ0_38 : Cond.fieldLink RJ0 38 "java/lang/String" "COMPACT_STRINGS" "Z" ∈ gTs := gT_in 313 (by decide +kernel) (by decide +kernel)
theorem lJ0_1053 : Cond.fieldLink RJ0 1053 "jdk/internal/util/Preconditions" "SIOOBE_FORMATTER" "Ljava/util/function/BiFunction;" ∈ gTs := gT_in 329 (by decide +kernel) (by decide +kernel)
theorem lJ0_9 : Cond.fieldLink RJ0 9 "java/lang/String" "value" "[B" ∈ gTs := gT_in 1065 (by decide +kernel) (by decide +kernel)
theorem lJ0_15 : Cond.fieldLink RJ0 15 "java/lang/String" "coder" "B" ∈ gTs := gT_in 1066 (by decide +kernel) (by decide +kernel)
theorem wStr : Cond.stringRef RX9 84 "f12,9,1;p0,70,0,0;p0,45,0,1;p1,0,0,1;p0,38,2,1;p2,90,3,0;p3,24,5,2;p3,31,5,2;p0,52,8,0;p0,12,1,0;" ∈ lw_tbl := List.mem_of_getElem? (i := 304) (by decide +kernel)
theorem wCS : Cond.laysStatic "java/lang/String" "COMPACT_STRINGS" "Z" ∈ lw_tbl := List.mem_of_getElem? (i := 314) (by decide +kernel)
theorem wSF : Cond.laysStatic "jdk/internal/util/Preconditions" "SIOOBE_FORMATTER" "Ljava/util/function/BiFunction;" ∈ lw_tbl := List.mem_of_getElem? (i := 330) (by decide +kernel)
theorem wIS : Cond.initialized "java/lang/String" ∈ gTs := gT_in 51 (by decide +kernel) (by decide +kernel)
theorem wIP : Cond.initialized "jdk/internal/util/Preconditions" ∈ gTs := gT_in 53 (by decide +kernel) (by decide +kernel)
/-- its letters -/
def sBy : List Int32 := [102, 49, 50, 44, 57, 44, 49, 59, 112, 48, 44, 55, 48, 44, 48, 44, 48, 59, 112, 48, 44, 52, 53, 44, 48, 44, 49, 59, 112, 49, 44, 48, 44, 48, 44, 49, 59, 112, 48, 44, 51, 56, 44, 50, 44, 49, 59, 112, 50, 44, 57, 48, 44, 51, 44, 48, 59, 112, 51, 44, 50, 52, 44, 53, 44, 50, 59, 112, 51, 44, 51, 49, 44, 53, 44, 50, 59, 112, 48, 44, 53, 50, 44, 56, 44, 48, 59, 112, 48, 44, 49, 50, 44, 49, 44, 48, 59]
/-- the letter at a place -/
def sAt (j : Nat) : Int32 := sBy.getD j 0
theorem sAt_c : ∀ j, j < 97 → ((sAt j &&& 255).toUInt32 % 65536).toInt32 = sAt j ∧ narrow .char (.int (sAt j)) = .int (sAt j) := by decide +kernel
def sF (k v : Nat) (A : Nat → Prop) (U : State) : Prop := vk_S 1 [97] [sBy] (fun _ => k) (fun _ => v) A U U.heap ∧ va_Z "java/lang/String" "COMPACT_STRINGS" "Z" (.int 1) A U U.heap ∧ va_Zq "jdk/internal/util/Preconditions" "SIOOBE_FORMATTER" "Ljava/util/function/BiFunction;" A U U.heap
theorem sF.to {k v : Nat} {A : Nat → Prop} {s U : State} {H : Heap} (h : sF k v A s) (hH : ∀ a : Nat, a < s.heap.size → ¬ A a → H[a]? = s.heap[a]?) (hU : U.heap = H) (hv : s.vm.Alike U.vm) : sF k v A U := by
  obtain ⟨h1, h2, h3⟩ := h
  unfold sF
  rw [hU]
  exact ⟨vk_S.moved hv (h1.kept hH), va_Z.moved hv (h2.kept hH), va_Zq.moved hv (h3.kept hH)⟩
theorem sF_blind {k v : Nat} {A : Nat → Prop} {as : List Value} : FrameBlind (va_Pc as (sF k v A)) := by
  intro a U g mk q
  exact ⟨q.1, q.2.to (H := U.heap) (fun _ _ _ => rfl) rfl (Vm.Alike.refl U.vm)⟩
def MJ (l : Launch) (y : gY) (k v : Nat) (A : Nat → Prop) (as : List Value) (post : Int32 → Prop) : Prop :=
  Met l y.1 (.code y.1 y.2.1 y.2.2.1 y.2.2.2.1 :: gTs) (gRoom y 0 0) (va_Pc as (sF k v A)) (vp_Si post) 0 0 (fun _ => False)
def MJv (l : Launch) (y : gY) (k v : Nat) (A : Nat → Prop) (as : List Value) : Prop :=
  Met l y.1 (.code y.1 y.2.1 y.2.2.1 y.2.2.2.1 :: gTs) (gRoom y 0 0) (va_Pc as (sF k v A)) (va_Sv (fun _ => True)) 0 0 (fun _ => False)
def jC (p : Program) (s : State) (m : MethodId) (args : Array Value) (meth : Method) (c : Code) (y : gY) (k v : Nat) (A : Nat → Prop) : Prop :=
  p.tables.exec = Jvm.exec ∧ c.code = y.2.1 ∧ c.maxLocals = y.2.2.1 ∧ s.vm.findClass y.1.cls = some m.cls ∧ (∀ q ∈ gTs, q.before args s = true) ∧ sF k v A s ∧ meth.sig.returnType = y.2.2.2.1 ∧ meth.locks = false
section GJ
variable {p : Program} {l : Launch} {e : Env} {s : State} {m : MethodId} {args : Array Value} {below : List Frame} {meth : Method} {c : Code} {Q : State → Prop} {y : gY} {k v : Nat} {A : Nat → Prop} {ls : Array Slot} {pc : Nat}
theorem j_run {as : List Value} {post : Int32 → Prop} (hp : plainName y.1.cls = true) (n : Nat) (hn : y.2.2.1 = n) (hl : (lg_sl as).length ≤ n)
    (k0 : ∀ (p : Program) (e : Env) (s : State) (m : MethodId) (args : Array Value) (below : List Frame) (meth : Method) (c : Code) (ls : Array Slot), jC p s m args meth c y k v A → lv_has ls n (lv_args 0 as) → W p l e (gRoom y 0 0) s m args below meth c s.heap [] 0 0 (MQ below (vp_Si post) args s 0 0 (fun _ => False)) (F0 m 0 ls [])) : MJ l y k v A as post := by
  subst hn
  refine Met.ofW (cc := y.2.1) (maxL := y.2.2.1) (ret := y.2.2.2.1) hp rfl ?_
  intro p e s m args below meth c s₁ B hml hv
  obtain ⟨rfl, hF⟩ := hv
  have hts := atoms_spec (ws := .code y.1 y.2.1 y.2.2.1 y.2.2.2.1 :: gTs) B.pre
  rw [lg_entry_eq]
  exact k0 p e s m _ below meth c _ ⟨B.exec, B.bytes, hml, findClass_of_methodNamed B.named, fun q hq => hts q (List.mem_cons_of_mem _ hq), hF, B.returns, B.notSynchronized⟩ (lv_entry as hl)
theorem j_runv {as : List Value} (hp : plainName y.1.cls = true) (n : Nat) (hn : y.2.2.1 = n) (hl : (lg_sl as).length ≤ n)
    (k0 : ∀ (p : Program) (e : Env) (s : State) (m : MethodId) (args : Array Value) (below : List Frame) (meth : Method) (c : Code) (ls : Array Slot), jC p s m args meth c y k v A → lv_has ls n (lv_args 0 as) → W p l e (gRoom y 0 0) s m args below meth c s.heap [] 0 0 (MQ below (va_Sv (fun _ => True)) args s 0 0 (fun _ => False)) (F0 m 0 ls [])) : MJv l y k v A as := by
  subst hn
  refine Met.ofW (cc := y.2.1) (maxL := y.2.2.1) (ret := y.2.2.2.1) hp rfl ?_
  intro p e s m args below meth c s₁ B hml hv
  obtain ⟨rfl, hF⟩ := hv
  have hts := atoms_spec (ws := .code y.1 y.2.1 y.2.2.1 y.2.2.2.1 :: gTs) B.pre
  rw [lg_entry_eq]
  exact k0 p e s m _ below meth c _ ⟨B.exec, B.bytes, hml, findClass_of_methodNamed B.named, fun q hq => hts q (List.mem_cons_of_mem _ hq), hF, B.returns, B.notSynchronized⟩ (lv_entry as hl)
theorem j_ret {post : Int32 → Prop} {x : Int32} {ty : FieldType} (C : jC p s m args meth c y k v A) (hr : y.2.2.2.1 = some ty) (hd : decode y.2.1 pc = .ok (.ireturn, 1)) (hn : narrow ty (.int x) = .int x) (hx : post x) : W p l e (gRoom y 0 0) s m args below meth c s.heap [] 0 0 (MQ below (vp_Si post) args s 0 0 (fun _ => False)) (F0 m pc ls [.int x]) :=
  W.zret C.1 C.2.1 (C.2.2.2.2.2.2.1.trans hr) hn (fun t ht _ => ⟨x, rfl, hx, ht⟩) (fun q hq => by cases hq) hd C.2.2.2.2.2.2.2
theorem j_cS {ix : Nat} {y' : gY} {as rest S : List Value} {post : Int32 → Prop} (C : jC p s m args meth c y k v A) (hd : decode y.2.1 pc = .ok (.invokestatic ix, 3)) (hc : gCS y.1.cls ix y' as.length) (hfit : gFit y y') (hM : MJ l y' k v A as post) (hS : as.reverse ++ rest = S) (hls : ls.size = y.2.2.1) (hst : (rest.map fun v => v.category).sum ≤ 8)
    (kk : ∀ r : Int32, post r → W p l e (gRoom y 0 0) s m args below meth c s.heap [] 0 0 Q (F0 m (pc + 3) ls (.int r :: rest))) : W p l e (gRoom y 0 0) s m args below meth c s.heap [] 0 0 Q (F0 m pc ls S) := by
  subst hS
  obtain ⟨C1, C2, C3, C4, C5, C6, C7, C8⟩ := C
  obtain ⟨⟨a1, a2, a3, a4, a5⟩, a6, a7⟩ := hc
  exact vp_callSi (va_Run.run (va_runS (As := as) ⟨C1, C2, C3, C4, C5⟩ hM ⟨callB_of as.length C5 (gGood a1) rfl rfl rfl (C5 _ a2) (C5 _ a6) ⟨a3, a4, a5⟩ hfit, C5 _ a7⟩ ⟨sF_blind, fun U hU hW => ⟨rfl, C6.to (H := s.heap) (fun _ _ _ => rfl) hU hW.alike⟩⟩ rfl rfl hls rfl (by simpa [JFrame.monitorRoom] using hst) hd ⟨Nat.le_refl _, Nat.le_refl _⟩)) kk
theorem j_cSv {ix : Nat} {y' : gY} {as rest S : List Value} (C : jC p s m args meth c y k v A) (hd : decode y.2.1 pc = .ok (.invokestatic ix, 3)) (hc : gCS y.1.cls ix y' as.length) (hfit : gFit y y') (hM : MJv l y' k v A as) (hS : as.reverse ++ rest = S) (hls : ls.size = y.2.2.1) (hst : (rest.map fun v => v.category).sum ≤ 8)
    (kk : W p l e (gRoom y 0 0) s m args below meth c s.heap [] 0 0 Q (F0 m (pc + 3) ls rest)) : W p l e (gRoom y 0 0) s m args below meth c s.heap [] 0 0 Q (F0 m pc ls S) := by
  subst hS
  obtain ⟨C1, C2, C3, C4, C5, C6, C7, C8⟩ := C
  obtain ⟨⟨a1, a2, a3, a4, a5⟩, a6, a7⟩ := hc
  exact va_csv (va_Run.run (va_runS (As := as) ⟨C1, C2, C3, C4, C5⟩ hM ⟨callB_of as.length C5 (gGood a1) rfl rfl rfl (C5 _ a2) (C5 _ a6) ⟨a3, a4, a5⟩ hfit, C5 _ a7⟩ ⟨sF_blind, fun U hU hW => ⟨rfl, C6.to (H := s.heap) (fun _ _ _ => rfl) hU hW.alike⟩⟩ rfl rfl hls rfl (by simpa [JFrame.monitorRoom] using hst) hd ⟨Nat.le_refl _, Nat.le_refl _⟩)) (fun _ => kk)
theorem j_cV {ix : Nat} {y' : gY} {as rest S : List Value} {post : Int32 → Prop} (C : jC p s m args meth c y k v A) (hd : decode y.2.1 pc = .ok (.invokevirtual ix, 3)) (hc : gCV y.1.cls ix y' as.length) (hcl : y'.1.cls = "java/lang/String") (hfit : gFit y y') (hM : MJ l y' k v A (.ref k :: as) post) (hS : as.reverse ++ .ref k :: rest = S) (hls : ls.size = y.2.2.1) (hst : (rest.map fun v => v.category).sum ≤ 8)
    (kk : ∀ r : Int32, post r → W p l e (gRoom y 0 0) s m args below meth c s.heap [] 0 0 Q (F0 m (pc + 3) ls (.int r :: rest))) : W p l e (gRoom y 0 0) s m args below meth c s.heap [] 0 0 Q (F0 m pc ls S) := by
  subst hS
  obtain ⟨C1, C2, C3, C4, C5, C6, C7, C8⟩ := C
  obtain ⟨⟨a1, a2, a3, a4, a5⟩, a6, a7, a8⟩ := hc
  exact vp_callSi (va_Run.run (va_runV (As := as) (C := y'.1.cls) ⟨C1, C2, C3, C4, C5⟩ hM ⟨callB_of as.length C5 (gGood a1) rfl rfl rfl (C5 _ a2) (C5 _ a6) ⟨a3, a4, a5⟩ hfit, C5 _ a7, C5 _ a8⟩ ⟨sF_blind, by rw [hcl]; exact vk_recv C6.1 (i := 0) (by decide) va_S.rf, fun U hU hW => ⟨rfl, C6.to (H := s.heap) (fun _ _ _ => rfl) hU hW.alike⟩⟩ rfl rfl hls rfl (by simpa [JFrame.monitorRoom] using hst) hd ⟨Nat.le_refl _, Nat.le_refl _⟩)) kk
end GJ
section GJM
variable {l : Launch} {k v : Nat} {A : Nat → Prop}
theorem MJ_coder : MJ l mJ0_coder_7d493 k v A [.ref k] (fun r => r = 0) := by
  refine j_run (by decide) 1 rfl (Nat.le_of_ble_eq_true rfl) (fun p e s m args below meth c ls C hl => ?_)
  have hl : lv_has ls 1 [(0, .ref k)] := hl
  have X := C
  obtain ⟨hx, hb, C3, hown, hts, hF, C7, C8⟩ := X
  refine va_gets hx hb hF.2.1 va_S.rf hown (hts _ lJ0_38) (fun _ h => h) dJ0_coder_7d493_0 ?_
  refine lv_if_eq (tgt := 13) hx hb dJ0_coder_7d493_3 rfl (fun c => absurd c (by decide)) (fun _ => ?_)
  refine lv_aload_n hx hb dJ0_coder_7d493_6 rfl (lv_at hl 0 rfl) ?_
  refine vk_getf hx hb (hF.1.1 0 (by decide)).2.1 va_S.rf hown (hts _ lJ0_15) (fun _ h => h) dJ0_coder_7d493_7 ?_
  refine lv_goto (tgt := 14) hx hb dJ0_coder_7d493_10 rfl ?_
  exact j_ret C rfl dJ0_coder_7d493_14 rfl rfl
theorem MJ_isLatin1 : MJ l mJ0_isLatin1_aae02 k v A [.ref k] (fun r => r = 1) := by
  refine j_run (by decide) 1 rfl (Nat.le_of_ble_eq_true rfl) (fun p e s m args below meth c ls C hl => ?_)
  have hl : lv_has ls 1 [(0, .ref k)] := hl
  have X := C
  obtain ⟨hx, hb, C3, hown, hts, hF, C7, C8⟩ := X
  refine va_gets hx hb hF.2.1 va_S.rf hown (hts _ lJ0_38) (fun _ h => h) dJ0_isLatin1_aae02_0 ?_
  refine lv_if_eq (tgt := 17) hx hb dJ0_isLatin1_aae02_3 rfl (fun c => absurd c (by decide)) (fun _ => ?_)
  refine lv_aload_n hx hb dJ0_isLatin1_aae02_6 rfl (lv_at hl 0 rfl) ?_
  refine vk_getf hx hb (hF.1.1 0 (by decide)).2.1 va_S.rf hown (hts _ lJ0_15) (fun _ h => h) dJ0_isLatin1_aae02_7 ?_
  refine lv_if_ne (tgt := 17) hx hb dJ0_isLatin1_aae02_10 rfl (fun c => absurd rfl c) (fun _ => ?_)
  refine lv_iconst (v := 1) hx hb dJ0_isLatin1_aae02_13 (by decide) ?_
  refine lv_goto (tgt := 18) hx hb dJ0_isLatin1_aae02_14 rfl ?_
  exact j_ret C rfl dJ0_isLatin1_aae02_18 rfl rfl
theorem MJ_length : MJ l mJ0_length_8abf5 k v A [.ref k] (fun r => r = 97) := by
  refine j_run (by decide) 1 rfl (Nat.le_of_ble_eq_true rfl) (fun p e s m args below meth c ls C hl => ?_)
  have hl : lv_has ls 1 [(0, .ref k)] := hl
  have X := C
  obtain ⟨hx, hb, C3, hown, hts, hF, C7, C8⟩ := X
  refine lv_aload_n hx hb dJ0_length_8abf5_0 rfl (lv_at hl 0 rfl) ?_
  refine vk_getf hx hb (hF.1.1 0 (by decide)).2.2.1 va_S.rf hown (hts _ lJ0_9) (fun _ h => h) dJ0_length_8abf5_1 ?_
  refine va_tlen (v := 97) hx hb (hF.1.1 0 (by decide)).2.2.2 va_S.rf rfl dJ0_length_8abf5_4 ?_
  refine lv_aload_n hx hb dJ0_length_8abf5_5 rfl (lv_at hl 0 rfl) ?_
  refine j_cV C (as := []) (rest := [.int 97]) dJ0_length_8abf5_6 kJ0_335 rfl ⟨Nat.le_of_ble_eq_true rfl, Nat.le_of_ble_eq_true rfl⟩ MJ_coder rfl hl.1 (Nat.le_of_ble_eq_true rfl) (fun r hr => ?_)
  subst hr
  refine lv_ishr hx hb dJ0_length_8abf5_9 ?_
  exact j_ret C rfl dJ0_length_8abf5_10 rfl (by decide)
theorem MJ_preCheck {i n : Nat} {vf : Value} (hvf : vf = .null ∨ ∃ t, vf = .ref t) (hi : i < n) (hn : n < 2 ^ 31) : MJ l mJ3_checkIndex_8e157 k v A [.int (nI i), .int (nI n), vf] (fun _ => True) := by
  have key : ∀ vf : Value, (lg_sl [.int (nI i), .int (nI n), vf]).length ≤ 3 → (∀ ls : Array Slot, lv_has ls 3 (lv_args 0 [.int (nI i), .int (nI n), vf]) → lv_has ls 3 [(0, .int (nI i)), (1, .int (nI n))]) → MJ l mJ3_checkIndex_8e157 k v A [.int (nI i), .int (nI n), vf] (fun _ => True) := by
    intro vf h1 h2
    refine j_run (by decide) 3 rfl h1 (fun p e s m args below meth c ls C hl => ?_)
    have hl := h2 ls hl
    have X := C
    obtain ⟨hx, hb, C3, hown, hts, hF, C7, C8⟩ := X
    refine lv_iload_n hx hb dJ3_checkIndex_8e157_0 rfl (lv_at hl 0 rfl) ?_
    refine lv_if_lt (tgt := 9) hx hb dJ3_checkIndex_8e157_1 rfl (fun c => absurd c (nI_pos (by omega))) (fun _ => ?_)
    refine lv_iload_n hx hb dJ3_checkIndex_8e157_4 rfl (lv_at hl 0 rfl) ?_
    refine lv_iload_n hx hb dJ3_checkIndex_8e157_5 rfl (lv_at hl 1 rfl) ?_
    refine lv_icmp_lt (tgt := 16) hx hb dJ3_checkIndex_8e157_6 rfl (fun _ => ?_) (fun c => absurd (nI_lt hi hn) c)
    refine lv_iload_n hx hb dJ3_checkIndex_8e157_16 rfl (lv_at hl 0 rfl) ?_
    exact j_ret C rfl dJ3_checkIndex_8e157_17 rfl trivial
  rcases hvf with rfl | ⟨t, rfl⟩
  · exact key .null (Nat.le_of_ble_eq_true rfl) (fun ls h => by
      have h2 : lv_has ls 3 [(0, .int (nI i)), (1, .int (nI n)), (2, .null)] := h
      exact ⟨h2.1, h2.2.1, fun q hq => h2.2.2 q (List.mem_append_left [((2 : Nat), Value.null)] hq)⟩)
  · exact key (.ref t) (Nat.le_of_ble_eq_true rfl) (fun ls h => by
      have h2 : lv_has ls 3 [(0, .int (nI i)), (1, .int (nI n)), (2, .ref t)] := h
      exact ⟨h2.1, h2.2.1, fun q hq => h2.2.2 q (List.mem_append_left [((2 : Nat), Value.ref t)] hq)⟩)
theorem MJ_strCheck {i n : Nat} (hi : i < n) (hn : n < 2 ^ 31) : MJv l mJ0_checkIndex_df160 k v A [.int (nI i), .int (nI n)] := by
  refine j_runv (by decide) 2 rfl (Nat.le_of_ble_eq_true rfl) (fun p e s m args below meth c ls C hl => ?_)
  have hl : lv_has ls 2 [(0, .int (nI i)), (1, .int (nI n))] := hl
  have X := C
  obtain ⟨hx, hb, C3, hown, hts, hF, C7, C8⟩ := X
  refine lv_iload_n hx hb dJ0_checkIndex_df160_0 rfl (lv_at hl 0 rfl) ?_
  refine lv_iload_n hx hb dJ0_checkIndex_df160_1 rfl (lv_at hl 1 rfl) ?_
  have key : ∀ vf : Value, (vf = .null ∨ ∃ t, vf = .ref t) → va_Z "jdk/internal/util/Preconditions" "SIOOBE_FORMATTER" "Ljava/util/function/BiFunction;" vf A s s.heap → W p l e (gRoom mJ0_checkIndex_df160 0 0) s m args below meth c s.heap [] 0 0 (MQ below (va_Sv (fun _ => True)) args s 0 0 (fun _ => False)) (F0 m 2 ls [.int (nI n), .int (nI i)]) := by
    intro vf h1 h2
    refine va_gets hx hb h2 va_S.rf hown (hts _ lJ0_1053) (fun _ h => h) dJ0_checkIndex_df160_2 ?_
    refine j_cS C (as := [.int (nI i), .int (nI n), vf]) (rest := []) dJ0_checkIndex_df160_5 kJ0_1059 ⟨Nat.le_of_ble_eq_true rfl, Nat.le_of_ble_eq_true rfl⟩ (MJ_preCheck h1 hi hn) rfl hl.1 (Nat.le_of_ble_eq_true rfl) (fun r _ => ?_)
    refine lv_pop hx hb dJ0_checkIndex_df160_8 rfl ?_
    exact W.vret hx hb C7 (fun t ht _ => ⟨rfl, trivial, ht⟩) (fun q hq => by cases hq) dJ0_checkIndex_df160_9 C8
  rcases hF.2.2 with h | ⟨t, h⟩
  · exact key .null (Or.inl rfl) h
  · exact key (.ref t) (Or.inr ⟨t, rfl⟩) h
theorem MJ_latChar {j : Nat} (hj : j < 97) : MJ l mJ1_charAt_3b067 k v A [.ref v, .int (nI j)] (fun r => r = sAt j) := by
  refine j_run (by decide) 2 rfl (Nat.le_of_ble_eq_true rfl) (fun p e s m args below meth c ls C hl => ?_)
  have hl : lv_has ls 2 [(0, .ref v), (1, .int (nI j))] := hl
  have X := C
  obtain ⟨hx, hb, C3, hown, hts, hF, C7, C8⟩ := X
  refine lv_iload_n hx hb dJ1_charAt_3b067_0 rfl (lv_at hl 1 rfl) ?_
  refine lv_aload_n hx hb dJ1_charAt_3b067_1 rfl (lv_at hl 0 rfl) ?_
  refine va_tlen (v := nI 97) hx hb (hF.1.1 0 (by decide)).2.2.2 va_S.rf rfl dJ1_charAt_3b067_2 ?_
  refine j_cSv C (as := [.int (nI j), .int (nI 97)]) (rest := []) dJ1_charAt_3b067_3 kJ1_9 ⟨Nat.le_of_ble_eq_true rfl, Nat.le_of_ble_eq_true rfl⟩ (MJ_strCheck hj (by decide)) rfl hl.1 (Nat.le_of_ble_eq_true rfl) ?_
  refine lv_aload_n hx hb dJ1_charAt_3b067_6 rfl (lv_at hl 0 rfl) ?_
  refine lv_iload_n hx hb dJ1_charAt_3b067_7 rfl (lv_at hl 1 rfl) ?_
  refine va_tb (v := .int (sAt j)) hx hb (hF.1.1 0 (by decide)).2.2.2 va_S.rf (vp_in_nI hj (by decide)) (by rw [nI_clamp (by omega)]; rfl) dJ1_charAt_3b067_8 ?_
  refine lv_sipush (v := 255) hx hb dJ1_charAt_3b067_9 (by decide) ?_
  refine lv_iand hx hb dJ1_charAt_3b067_12 ?_
  refine lv_i2c hx hb dJ1_charAt_3b067_13 (sAt_c j hj).1 ?_
  exact j_ret C rfl dJ1_charAt_3b067_14 (sAt_c j hj).2 rfl
theorem MJ_charAt {j : Nat} (hj : j < 97) : MJ l mJ0_charAt_5068e k v A [.ref k, .int (nI j)] (fun r => r = sAt j) := by
  refine j_run (by decide) 2 rfl (Nat.le_of_ble_eq_true rfl) (fun p e s m args below meth c ls C hl => ?_)
  have hl : lv_has ls 2 [(0, .ref k), (1, .int (nI j))] := hl
  have X := C
  obtain ⟨hx, hb, C3, hown, hts, hF, C7, C8⟩ := X
  refine lv_aload_n hx hb dJ0_charAt_5068e_0 rfl (lv_at hl 0 rfl) ?_
  refine j_cV C (as := []) (rest := []) dJ0_charAt_5068e_1 kJ0_492 rfl ⟨Nat.le_of_ble_eq_true rfl, Nat.le_of_ble_eq_true rfl⟩ MJ_isLatin1 rfl hl.1 (Nat.le_of_ble_eq_true rfl) (fun r hr => ?_)
  subst hr
  refine lv_if_eq (tgt := 16) hx hb dJ0_charAt_5068e_4 rfl (fun c => absurd c (by decide)) (fun _ => ?_)
  refine lv_aload_n hx hb dJ0_charAt_5068e_7 rfl (lv_at hl 0 rfl) ?_
  refine vk_getf hx hb (hF.1.1 0 (by decide)).2.2.1 va_S.rf hown (hts _ lJ0_9) (fun _ h => h) dJ0_charAt_5068e_8 ?_
  refine lv_iload_n hx hb dJ0_charAt_5068e_11 rfl (lv_at hl 1 rfl) ?_
  refine j_cS C (as := [.ref v, .int (nI j)]) (rest := []) dJ0_charAt_5068e_12 kJ0_495 ⟨Nat.le_of_ble_eq_true rfl, Nat.le_of_ble_eq_true rfl⟩ (MJ_latChar hj) rfl hl.1 (Nat.le_of_ble_eq_true rfl) (fun r hr => ?_)
  subst hr
  exact j_ret C rfl dJ0_charAt_5068e_15 (sAt_c j hj).2 rfl
end GJM
/-- what a start gives of the String constant -/
def gES (w : gW) : State → Prop := fun U => ∃ k v : Nat, sF k v (fun q => w.2.2.2.2 ≤ q) U ∧ vk_R RX9 84 "f12,9,1;p0,70,0,0;p0,45,0,1;p1,0,0,1;p0,38,2,1;p2,90,3,0;p3,24,5,2;p3,31,5,2;p0,52,8,0;p0,12,1,0;" k U
section GStr
variable {w : gW} {n : Nat} {y : gY} {mc ms : Nat} {P : gP} {cs sl : Nat} {h : gH} {pc : Nat} {L st : List Value}
theorem g_slen {ix : Nat} (hy : y.1.cls = RX9) (hd1 : decode y.2.1 pc = .ok (.ldc 84, 2)) (hd2 : decode y.2.1 (pc + 2) = .ok (.invokevirtual ix, 3)) (hc : gCV y.1.cls ix mJ0_length_8abf5 0) (hfit : gFit y mJ0_length_8abf5) (hst : (st.map fun v => v.category).sum ≤ 8) (q : Nat) (hq : pc + 5 = q) (hcs : cs ≤ mc) (hsl : sl ≤ ms)
    (kk : G w (gES w) true n y mc ms P cs sl h q L (.int 97 :: st)) : G w (gES w) true n y mc ms P cs sl h pc L st := by
  subst hq
  intro p e s m args below meth c C H locs ls X1 X2 X3
  obtain ⟨C1, C2, C3, C4, C5, C6, C7, C8, C9, C10, k, v, hF, hR⟩ := id C
  refine va_ldcS C1 C2 (C6.trans rfl) (by rw [hy]; exact hR) hd1 ?_
  have hH : ∀ a : Nat, a < s.heap.size → ¬ w.2.2.2.2 ≤ a → H[a]? = s.heap[a]? := fun a h1 h2 => X2.2.1 a h1 (fun z => h2 z.1)
  have hS : va_S (fun q => w.2.2.2.2 ≤ q) s.heap H [] := ⟨X2.1, hH, fun _ h => by cases h⟩
  obtain ⟨⟨a1, a2, a3, a4, a5⟩, a6, a7, a8⟩ := hc
  refine vp_callSi (va_Run.run (va_runV (As := []) (C := "java/lang/String") ⟨C1, C2, C3, C6, C7⟩ (MJ_length (l := w.1) (k := k) (v := v) (A := fun q => w.2.2.2.2 ≤ q)) ⟨callB_of 0 C7 (gGood a1) rfl rfl rfl (C7 _ a2) (C7 _ a6) ⟨a3, a4, a5⟩ hfit, C7 _ a7, C7 _ a8⟩ ⟨sF_blind, vk_recv hF.1 (i := 0) (by decide) hS, fun U hU hW => ⟨rfl, hF.to hH hU hW.alike⟩⟩ rfl rfl X3.1 rfl (by simpa [JFrame.monitorRoom] using gRest hst) hd2 ⟨hcs, hsl⟩)) (fun r hr => ?_)
  subst hr
  exact kk p e s m args below meth c C H locs ls X1 X2 X3
theorem g_schar {ix j i : Nat} {jj : Fin 4} (hy : y.1.cls = RX9) (hd1 : decode y.2.1 pc = .ok (.ldc 84, 2)) (hd3 : decode y.2.1 (pc + 2) = .ok (.iload_n jj, 1)) (hjj : (jj : Nat) = i) (hl : L[i]? = some (.int (nI j))) (hj : j < 97) (hd2 : decode y.2.1 (pc + 3) = .ok (.invokevirtual ix, 3)) (hc : gCV y.1.cls ix mJ0_charAt_5068e 1) (hfit : gFit y mJ0_charAt_5068e) (hst : (st.map fun v => v.category).sum ≤ 8) (q : Nat) (hq : pc + 6 = q) (hcs : cs ≤ mc) (hsl : sl ≤ ms)
    (kk : G w (gES w) true n y mc ms P cs sl h q L (.int (sAt j) :: st)) : G w (gES w) true n y mc ms P cs sl h pc L st := by
  subst hq
  intro p e s m args below meth c C H locs ls X1 X2 X3
  obtain ⟨C1, C2, C3, C4, C5, C6, C7, C8, C9, C10, k, v, hF, hR⟩ := id C
  refine va_ldcS C1 C2 (C6.trans rfl) (by rw [hy]; exact hR) hd1 ?_
  refine lv_iload_n C1 C2 hd3 hjj (X3.2.2.2 i _ hl (by simp [gF])) ?_
  have hH : ∀ a : Nat, a < s.heap.size → ¬ w.2.2.2.2 ≤ a → H[a]? = s.heap[a]? := fun a h1 h2 => X2.2.1 a h1 (fun z => h2 z.1)
  have hS : va_S (fun q => w.2.2.2.2 ≤ q) s.heap H [] := ⟨X2.1, hH, fun _ h => by cases h⟩
  obtain ⟨⟨a1, a2, a3, a4, a5⟩, a6, a7, a8⟩ := hc
  refine vp_callSi (va_Run.run (va_runV (As := [.int (nI j)]) (C := "java/lang/String") ⟨C1, C2, C3, C6, C7⟩ (MJ_charAt (l := w.1) (k := k) (v := v) (A := fun q => w.2.2.2.2 ≤ q) hj) ⟨callB_of 1 C7 (gGood a1) rfl rfl rfl (C7 _ a2) (C7 _ a6) ⟨a3, a4, a5⟩ hfit, C7 _ a7, C7 _ a8⟩ ⟨sF_blind, vk_recv hF.1 (i := 0) (by decide) hS, fun U hU hW => ⟨rfl, hF.to hH hU hW.alike⟩⟩ rfl rfl X3.1 rfl (by simpa [JFrame.monitorRoom] using gRest hst) hd2 ⟨hcs, hsl⟩)) (fun r hr => ?_)
  subst hr
  exact kk p e s m args below meth c C H locs ls X1 X2 X3
end GStr
