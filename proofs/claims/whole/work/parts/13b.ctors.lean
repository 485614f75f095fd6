/-! the constructors -/
theorem nfX0 : ∀ j, j < 4 → defaultValue (tyX0 j) = vp_V [.null, .null, .int 0, .int 0] j := fun j hj => by
  match j, hj with
  | 0, _ => rfl
  | 1, _ => rfl
  | 2, _ => rfl
  | 3, _ => rfl
  | j + 4, hj => omega
theorem nfX1 : ∀ j, j < 3 → defaultValue (tyX1 j) = vp_V [.null, .null, .int 0] j := fun j hj => by
  match j, hj with
  | 0, _ => rfl
  | 1, _ => rfl
  | 2, _ => rfl
  | j + 3, hj => omega
theorem nfX2 : ∀ j, j < 10 → defaultValue (tyX2 j) = vp_V [.null, .null, .null, .null, .null, .int 0, .int 0, .int 0, .int 0, .int 0] j := fun j hj => by
  match j, hj with
  | 0, _ => rfl
  | 1, _ => rfl
  | 2, _ => rfl
  | 3, _ => rfl
  | 4, _ => rfl
  | 5, _ => rfl
  | 6, _ => rfl
  | 7, _ => rfl
  | 8, _ => rfl
  | 9, _ => rfl
  | j + 10, hj => omega
theorem nfX3 : ∀ j, j < 1 → defaultValue (tyX3 j) = vp_V [.null] j := fun j hj => by
  match j, hj with
  | 0, _ => rfl
  | j + 1, hj => omega
theorem nfX4 : ∀ j, j < 9 → defaultValue (tyX4 j) = vp_V [.null, .null, .null, .null, .null, .null, .int 0, .int 0, .int 0] j := fun j hj => by
  match j, hj with
  | 0, _ => rfl
  | 1, _ => rfl
  | 2, _ => rfl
  | 3, _ => rfl
  | 4, _ => rfl
  | 5, _ => rfl
  | 6, _ => rfl
  | 7, _ => rfl
  | 8, _ => rfl
  | j + 9, hj => omega
theorem nfX5 : ∀ j, j < 2 → defaultValue (tyX5 j) = vp_V [.null, .int 0] j := fun j hj => by
  match j, hj with
  | 0, _ => rfl
  | 1, _ => rfl
  | j + 2, hj => omega
theorem nfX6 : ∀ j, j < 8 → defaultValue (tyX6 j) = vp_V [.null, .null, .int 0, .int 0, .int 0, .int 0, .int 0, .int 0] j := fun j hj => by
  match j, hj with
  | 0, _ => rfl
  | 1, _ => rfl
  | 2, _ => rfl
  | 3, _ => rfl
  | 4, _ => rfl
  | 5, _ => rfl
  | 6, _ => rfl
  | 7, _ => rfl
  | j + 8, hj => omega
theorem nfX7 : ∀ j, j < 2 → defaultValue (tyX7 j) = vp_V [.null, .int 0] j := fun j hj => by
  match j, hj with
  | 0, _ => rfl
  | 1, _ => rfl
  | j + 2, hj => omega
theorem nfX8 : ∀ j, j < 3 → defaultValue (tyX8 j) = vp_V [.null, .null, .int 0] j := fun j hj => by
  match j, hj with
  | 0, _ => rfl
  | 1, _ => rfl
  | 2, _ => rfl
  | j + 3, hj => omega
theorem nfX9 : ∀ j, j < 11 → defaultValue (tyX9 j) = vp_V [.null, .null, .null, .null, .null, .null, .null, .null, .null, .null, .null] j := fun j hj => by
  match j, hj with
  | 0, _ => rfl
  | 1, _ => rfl
  | 2, _ => rfl
  | 3, _ => rfl
  | 4, _ => rfl
  | 5, _ => rfl
  | 6, _ => rfl
  | 7, _ => rfl
  | 8, _ => rfl
  | 9, _ => rfl
  | 10, _ => rfl
  | j + 11, hj => omega
theorem nfX10 : ∀ j, j < 15 → defaultValue (tyX10 j) = vp_V [.null, .int 0, .null, .null, .null, .null, .int 0, .null, .int 0, .null, .int 0, .int 0, .null, .null, .null] j := fun j hj => by
  match j, hj with
  | 0, _ => rfl
  | 1, _ => rfl
  | 2, _ => rfl
  | 3, _ => rfl
  | 4, _ => rfl
  | 5, _ => rfl
  | 6, _ => rfl
  | 7, _ => rfl
  | 8, _ => rfl
  | 9, _ => rfl
  | 10, _ => rfl
  | 11, _ => rfl
  | 12, _ => rfl
  | 13, _ => rfl
  | 14, _ => rfl
  | j + 15, hj => omega
theorem gCast {w : gW} {E : State → Prop} {al : Bool} {n : Nat} {y : gY} {mc ms : Nat} {P : gP} {cs sl : Nat} {h h2 : gH} {pc : Nat} {L st : List Value} (e : h = h2) (k : G w E al n y mc ms P cs sl h2 pc L st) : G w E al n y mc ms P cs sl h pc L st := by
  subst e
  exact k
theorem sp_k {h A : gH} {k : Nat} {e o : gE} (hk : h[k]? = some e) : (h.set k o ++ A)[k]? = some o := by
  have hl := (List.getElem?_eq_some_iff.mp hk).1
  rw [List.getElem?_append_left (by rw [List.length_set]; exact hl), List.getElem?_set_self hl]
theorem sp_ks {h A : gH} {k : Nat} {e o o2 : gE} (hk : h[k]? = some e) : (h.set k o ++ A).set k o2 = h.set k o2 ++ A := by
  have hl := (List.getElem?_eq_some_iff.mp hk).1
  rw [List.set_append_left _ _ (by rw [List.length_set]; exact hl), List.set_set]
theorem sp_b {h A : gH} {k b j : Nat} {o x : gE} (hb : h.length = b) (hx : A[j]? = some x) : (h.set k o ++ A)[b + j]? = some x := by
  rw [List.getElem?_append_right (by rw [List.length_set]; omega), List.length_set, ← hx]
  congr 1
  omega
theorem sp_bs {h A : gH} {k b j : Nat} {o x : gE} (hb : h.length = b) : (h.set k o ++ A).set (b + j) x = h.set k o ++ A.set j x := by
  rw [List.set_append_right _ _ (by rw [List.length_set]; omega), List.length_set]
  congr 2
  omega
theorem sp_len {h A : gH} {k b : Nat} {o : gE} (hb : h.length = b) : (h.set k o ++ A).length = b + A.length := by
  rw [List.length_append, List.length_set, hb]
theorem sp_0 {h : gH} {k : Nat} {o : gE} (hk : h[k]? = some o) : h = h.set k o ++ [] := by
  rw [gset_self hk, List.append_nil]
section GInit
variable {w : gW} {E : State → Prop} {al : Bool} {n : Nat} {y : gY} {mc ms : Nat} {P : gP} {cs sl : Nat} {h : gH} {pc : Nat} {L st : List Value}
theorem g_kI {ix a : Nat} {yn : MethodName} {yb : ByteArray} {yl yf yk : Nat} {as S : List Value} {mc' ms' : Nat} {h1 : gH} {cs2 sl2 : Nat} (hd : decode y.2.1 pc = .ok (.invokespecial ix, 3)) (q : Nat) (hq : pc + 3 = q) (hc : gCI y.1.cls ix (yn, yb, yl, none, yf, yk) as.length) (hfit : gFit y (yn, yb, yl, none, yf, yk)) (hM : M w gT0 al (yn, yb, yl, none, yf, yk) mc' ms' h (.ref a :: as) (gEq h1 none))
    (hS : as.reverse ++ .ref a :: st = S) (hst : (st.map fun v => v.category).sum ≤ 8) (h1' : cs + mc' ≤ mc) (h2' : sl + ms' ≤ ms) (e1 : cs + mc' = cs2) (e2 : sl + ms' = sl2)
    (kk : G w E al n y mc ms P cs2 sl2 h1 q L st) : G w E al n y mc ms P cs sl h pc L S := by
  subst e1
  subst e2
  exact g_callI hd q hq hc hfit hM hS hst h1' h2' (fun h2 r hr => by
    obtain ⟨rfl, rfl⟩ := hr
    exact kk)
theorem g_kIN {ix a : Nat} {host : String} {yn : MethodName} {yb : ByteArray} {yl yf yk : Nat} {as S : List Value} {mc' ms' : Nat} {h1 : gH} {cs2 sl2 : Nat} (hd : decode y.2.1 pc = .ok (.invokespecial ix, 3)) (q : Nat) (hq : pc + 3 = q) (hc : gCIN y.1.cls ix (yn, yb, yl, none, yf, yk) as.length host) (hfit : gFit y (yn, yb, yl, none, yf, yk)) (hM : M w gT0 al (yn, yb, yl, none, yf, yk) mc' ms' h (.ref a :: as) (gEq h1 none))
    (hS : as.reverse ++ .ref a :: st = S) (hst : (st.map fun v => v.category).sum ≤ 8) (h1' : cs + mc' ≤ mc) (h2' : sl + ms' ≤ ms) (e1 : cs + mc' = cs2) (e2 : sl + ms' = sl2)
    (kk : G w E al n y mc ms P cs2 sl2 h1 q L st) : G w E al n y mc ms P cs sl h pc L S := by
  subst e1
  subst e2
  exact g_callIN hd q hq hc hfit hM hS hst h1' h2' (fun h2 r hr => by
    obtain ⟨rfl, rfl⟩ := hr
    exact kk)
end GInit
theorem sp_call {h A B : gH} {k b j : Nat} {o x : gE} {e : gE} (hk : h[k]? = some e) (hb : h.length = b) : (h.set k o ++ A).set (b + j) x ++ B = h.set k o ++ (A.set j x ++ B) := by
  rw [sp_bs hb, List.append_assoc]
set_option maxRecDepth 100000 in
set_option maxHeartbeats 4000000 in
theorem MX3_init {w : gW} {h : gH} {k b : Nat} {N : Nat} (hN : N < 2 ^ 31) (hN4 : N * 4 ≤ 536870912) (hk : h[k]? = some (.inr (.inr (3, [.null])))) (hb : h.length = b) {h9 : gH} (h9e : (h.set k (.inr (.inr (3, [.ref (b + 0)]))) ++ [.inl (N, fun _ => 0)]) = h9) : M w gT0 true mX3_init 1 N h [.ref k, .int (nI N)] (gEq h9 none) := by
  subst h9e
  refine M.of (L0 := [.ref k, .int (nI N)]) (by decide +kernel) (Nat.le_of_ble_eq_true rfl) rfl ?_
  refine gCast (h2 := (h.set k (.inr (.inr (3, [.null]))) ++ [])) (sp_0 hk) ?_
  refine g_aload_n dX3_init_0 rfl 1 rfl rfl ?_
  refine g_objInit dX3_init_1 4 rfl oX3_1 wOi wOc (by decide) (by decide) (by decide) ?_
  refine g_aload_n dX3_init_4 rfl 5 rfl rfl ?_
  refine g_iload_n dX3_init_5 rfl 6 rfl rfl ?_
  refine g_if_ge dX3_init_6 13 rfl 9 rfl (fun _ => ?_) (fun c => absurd (nI_pos' hN) c)
  refine g_iload_n dX3_init_13 rfl 14 rfl rfl ?_
  refine g_newa (N := N) dX3_init_14 16 rfl rfl wAi (nI_pos hN) (nI_clamp hN) hN4 (Nat.le_of_ble_eq_true rfl) (Nat.le_of_eq (Nat.zero_add _)) (b := b + 0) (sp_len hb) ?_
  refine gCast (h2 := (h.set k (.inr (.inr (3, [.null]))) ++ [.inl (N, fun _ => 0)])) (List.append_assoc _ _ _) ?_
  refine g_putF dX3_init_16 19 rfl lX3_7 wrX3 rfl rfl rfl rfl rfl rfl (sp_k hk) (Nat.le_of_ble_eq_true rfl) (h' := (h.set k (.inr (.inr (3, [.ref (b + 0)]))) ++ [.inl (N, fun _ => 0)])) (sp_ks hk) ?_
  exact g_return dX3_init_19 rfl (Nat.le_of_ble_eq_true rfl) (Nat.le_of_eq (Nat.zero_add _)) ⟨rfl, rfl⟩
set_option maxRecDepth 100000 in
set_option maxHeartbeats 4000000 in
theorem MX7_init {w : gW} {h : gH} {k b : Nat} (hk : h[k]? = some (.inr (.inr (7, [.null, .int 0])))) (hb : h.length = b) {h9 : gH} (h9e : (h.set k (.inr (.inr (7, [.ref (b + 0), .int 0]))) ++ [.inr (.inr (3, [.ref (b + 1)])), .inl (200, fun _ => 0)]) = h9) : M w gT0 true mX7_init 2 201 h [.ref k] (gEq h9 none) := by
  subst h9e
  refine M.of (L0 := [.ref k]) (by decide +kernel) (Nat.le_of_ble_eq_true rfl) rfl ?_
  refine gCast (h2 := (h.set k (.inr (.inr (7, [.null, .int 0]))) ++ [])) (sp_0 hk) ?_
  refine g_aload_n dX7_init_0 rfl 1 rfl rfl ?_
  refine g_objInit dX7_init_1 4 rfl oX7_3 wOi wOc (by decide) (by decide) (by decide) ?_
  refine g_aload_n dX7_init_4 rfl 5 rfl rfl ?_
  refine g_new (ci := 3) (r := (RX3, TX3, 1)) (fs := [.null]) dX7_init_5 8 rfl rfl rfl inX3 tyX3 tyX3_ok nX7_9 icX3 itX3 nfX3 rfl (Nat.le_of_ble_eq_true rfl) (Nat.le_of_ble_eq_true rfl) (b := b + 0) (sp_len hb) (N := 1) rfl ?_
  refine gCast (h2 := (h.set k (.inr (.inr (7, [.null, .int 0]))) ++ [.inr (.inr (3, [.null]))])) (List.append_assoc _ _ _) ?_
  refine g_dup dX7_init_8 9 rfl rfl ?_
  refine g_sipush 200 dX7_init_9 12 rfl (by decide) ?_
  refine g_kI (as := [.int 200]) (st := [.ref (b + 0), .ref k]) (h1 := (h.set k (.inr (.inr (7, [.null, .int 0]))) ++ [.inr (.inr (3, [.ref (b + 1)])), .inl (200, fun _ => 0)])) (cs2 := 2) (sl2 := 201) dX7_init_12 15 rfl kX7_11 ⟨Nat.le_of_ble_eq_true rfl, Nat.le_of_ble_eq_true rfl⟩ (MX3_init (N := 200) (by decide) (by decide) (sp_b hb rfl) (sp_len hb) (h9 := (h.set k (.inr (.inr (7, [.null, .int 0]))) ++ [.inr (.inr (3, [.ref (b + 1)])), .inl (200, fun _ => 0)])) (sp_call hk hb)) rfl (Nat.le_of_ble_eq_true rfl) (Nat.le_of_ble_eq_true rfl) (Nat.le_of_ble_eq_true rfl) rfl rfl ?_
  refine g_putF dX7_init_15 18 rfl lX7_14 wrX7 rfl rfl rfl rfl rfl rfl (sp_k hk) (Nat.le_of_ble_eq_true rfl) (h' := (h.set k (.inr (.inr (7, [.ref (b + 0), .int 0]))) ++ [.inr (.inr (3, [.ref (b + 1)])), .inl (200, fun _ => 0)])) (sp_ks hk) ?_
  exact g_return dX7_init_18 rfl (Nat.le_of_ble_eq_true rfl) (Nat.le_of_ble_eq_true rfl) ⟨rfl, rfl⟩
set_option maxRecDepth 100000 in
set_option maxHeartbeats 4000000 in
theorem MX1_init {w : gW} {h : gH} {k b : Nat} {r1 : Nat} (hk : h[k]? = some (.inr (.inr (1, [.null, .null, .int 0])))) (hb : h.length = b) {h9 : gH} (h9e : (h.set k (.inr (.inr (1, [.ref r1, .ref (b + 0), .int 0]))) ++ [.inr (.inr (3, [.ref (b + 1)])), .inl (4, fun _ => 0)]) = h9) : M w gT0 true mX1_init 2 5 h [.ref k, .ref r1] (gEq h9 none) := by
  subst h9e
  refine M.of (L0 := [.ref k, .ref r1]) (by decide +kernel) (Nat.le_of_ble_eq_true rfl) rfl ?_
  refine gCast (h2 := (h.set k (.inr (.inr (1, [.null, .null, .int 0]))) ++ [])) (sp_0 hk) ?_
  refine g_aload_n dX1_init_0 rfl 1 rfl rfl ?_
  refine g_objInit dX1_init_1 4 rfl oX1_3 wOi wOc (by decide) (by decide) (by decide) ?_
  refine g_aload_n dX1_init_4 rfl 5 rfl rfl ?_
  refine g_new (ci := 3) (r := (RX3, TX3, 1)) (fs := [.null]) dX1_init_5 8 rfl rfl rfl inX3 tyX3 tyX3_ok nX1_9 icX3 itX3 nfX3 rfl (Nat.le_of_ble_eq_true rfl) (Nat.le_of_ble_eq_true rfl) (b := b + 0) (sp_len hb) (N := 1) rfl ?_
  refine gCast (h2 := (h.set k (.inr (.inr (1, [.null, .null, .int 0]))) ++ [.inr (.inr (3, [.null]))])) (List.append_assoc _ _ _) ?_
  refine g_dup dX1_init_8 9 rfl rfl ?_
  refine g_iconst 4 dX1_init_9 10 rfl (by decide) ?_
  refine g_kI (as := [.int 4]) (st := [.ref (b + 0), .ref k]) (h1 := (h.set k (.inr (.inr (1, [.null, .null, .int 0]))) ++ [.inr (.inr (3, [.ref (b + 1)])), .inl (4, fun _ => 0)])) (cs2 := 2) (sl2 := 5) dX1_init_10 13 rfl kX1_13 ⟨Nat.le_of_ble_eq_true rfl, Nat.le_of_ble_eq_true rfl⟩ (MX3_init (N := 4) (by decide) (by decide) (sp_b hb rfl) (sp_len hb) (h9 := (h.set k (.inr (.inr (1, [.null, .null, .int 0]))) ++ [.inr (.inr (3, [.ref (b + 1)])), .inl (4, fun _ => 0)])) (sp_call hk hb)) rfl (Nat.le_of_ble_eq_true rfl) (Nat.le_of_ble_eq_true rfl) (Nat.le_of_ble_eq_true rfl) rfl rfl ?_
  refine g_putF dX1_init_13 16 rfl lX1_16 wrX1 rfl rfl rfl rfl rfl rfl (sp_k hk) (Nat.le_of_ble_eq_true rfl) (h' := (h.set k (.inr (.inr (1, [.null, .ref (b + 0), .int 0]))) ++ [.inr (.inr (3, [.ref (b + 1)])), .inl (4, fun _ => 0)])) (sp_ks hk) ?_
  refine g_aload_n dX1_init_16 rfl 17 rfl rfl ?_
  refine g_aload_n dX1_init_17 rfl 18 rfl rfl ?_
  refine g_putF dX1_init_18 21 rfl lX1_20 wrX1 rfl rfl rfl rfl rfl rfl (sp_k hk) (Nat.le_of_ble_eq_true rfl) (h' := (h.set k (.inr (.inr (1, [.ref r1, .ref (b + 0), .int 0]))) ++ [.inr (.inr (3, [.ref (b + 1)])), .inl (4, fun _ => 0)])) (sp_ks hk) ?_
  exact g_return dX1_init_21 rfl (Nat.le_of_ble_eq_true rfl) (Nat.le_of_ble_eq_true rfl) ⟨rfl, rfl⟩
set_option maxRecDepth 100000 in
set_option maxHeartbeats 4000000 in
theorem MX2_init {w : gW} {h : gH} {k b : Nat} (hk : h[k]? = some (.inr (.inr (2, [.null, .null, .null, .null, .null, .int 0, .int 0, .int 0, .int 0, .int 0])))) (hb : h.length = b) {h9 : gH} (h9e : (h.set k (.inr (.inr (2, [.ref (b + 0), .ref (b + 2), .ref (b + 4), .ref (b + 6), .ref (b + 8), .int 0, .int 0, .int 0, .int 0, .int 0]))) ++ [.inr (.inr (3, [.ref (b + 1)])), .inl (9, fun _ => 0), .inr (.inr (3, [.ref (b + 3)])), .inl (9, fun _ => 0), .inr (.inr (3, [.ref (b + 5)])), .inl (9, fun _ => 0), .inr (.inr (3, [.ref (b + 7)])), .inl (9, fun _ => 0), .inr (.inr (3, [.ref (b + 9)])), .inl (6, fun _ => 0)]) = h9) : M w gT0 true mX2_init 10 47 h [.ref k] (gEq h9 none) := by
  subst h9e
  refine M.of (L0 := [.ref k]) (by decide +kernel) (Nat.le_of_ble_eq_true rfl) rfl ?_
  refine gCast (h2 := (h.set k (.inr (.inr (2, [.null, .null, .null, .null, .null, .int 0, .int 0, .int 0, .int 0, .int 0]))) ++ [])) (sp_0 hk) ?_
  refine g_aload_n dX2_init_0 rfl 1 rfl rfl ?_
  refine g_objInit dX2_init_1 4 rfl oX2_3 wOi wOc (by decide) (by decide) (by decide) ?_
  refine g_aload_n dX2_init_4 rfl 5 rfl rfl ?_
  refine g_new (ci := 3) (r := (RX3, TX3, 1)) (fs := [.null]) dX2_init_5 8 rfl rfl rfl inX3 tyX3 tyX3_ok nX2_9 icX3 itX3 nfX3 rfl (Nat.le_of_ble_eq_true rfl) (Nat.le_of_ble_eq_true rfl) (b := b + 0) (sp_len hb) (N := 1) rfl ?_
  refine gCast (h2 := (h.set k (.inr (.inr (2, [.null, .null, .null, .null, .null, .int 0, .int 0, .int 0, .int 0, .int 0]))) ++ [.inr (.inr (3, [.null]))])) (List.append_assoc _ _ _) ?_
  refine g_dup dX2_init_8 9 rfl rfl ?_
  refine g_bipush 9 dX2_init_9 11 rfl (by decide) ?_
  refine g_kI (as := [.int 9]) (st := [.ref (b + 0), .ref k]) (h1 := (h.set k (.inr (.inr (2, [.null, .null, .null, .null, .null, .int 0, .int 0, .int 0, .int 0, .int 0]))) ++ [.inr (.inr (3, [.ref (b + 1)])), .inl (9, fun _ => 0)])) (cs2 := 2) (sl2 := 10) dX2_init_11 14 rfl kX2_11 ⟨Nat.le_of_ble_eq_true rfl, Nat.le_of_ble_eq_true rfl⟩ (MX3_init (N := 9) (by decide) (by decide) (sp_b hb rfl) (sp_len hb) (h9 := (h.set k (.inr (.inr (2, [.null, .null, .null, .null, .null, .int 0, .int 0, .int 0, .int 0, .int 0]))) ++ [.inr (.inr (3, [.ref (b + 1)])), .inl (9, fun _ => 0)])) (sp_call hk hb)) rfl (Nat.le_of_ble_eq_true rfl) (Nat.le_of_ble_eq_true rfl) (Nat.le_of_ble_eq_true rfl) rfl rfl ?_
  refine g_putF dX2_init_14 17 rfl lX2_14 wrX2 rfl rfl rfl rfl rfl rfl (sp_k hk) (Nat.le_of_ble_eq_true rfl) (h' := (h.set k (.inr (.inr (2, [.ref (b + 0), .null, .null, .null, .null, .int 0, .int 0, .int 0, .int 0, .int 0]))) ++ [.inr (.inr (3, [.ref (b + 1)])), .inl (9, fun _ => 0)])) (sp_ks hk) ?_
  refine g_aload_n dX2_init_17 rfl 18 rfl rfl ?_
  refine g_new (ci := 3) (r := (RX3, TX3, 1)) (fs := [.null]) dX2_init_18 21 rfl rfl rfl inX3 tyX3 tyX3_ok nX2_9 icX3 itX3 nfX3 rfl (Nat.le_of_ble_eq_true rfl) (Nat.le_of_ble_eq_true rfl) (b := b + 2) (sp_len hb) (N := 1) rfl ?_
  refine gCast (h2 := (h.set k (.inr (.inr (2, [.ref (b + 0), .null, .null, .null, .null, .int 0, .int 0, .int 0, .int 0, .int 0]))) ++ [.inr (.inr (3, [.ref (b + 1)])), .inl (9, fun _ => 0), .inr (.inr (3, [.null]))])) (List.append_assoc _ _ _) ?_
  refine g_dup dX2_init_21 22 rfl rfl ?_
  refine g_bipush 9 dX2_init_22 24 rfl (by decide) ?_
  refine g_kI (as := [.int 9]) (st := [.ref (b + 2), .ref k]) (h1 := (h.set k (.inr (.inr (2, [.ref (b + 0), .null, .null, .null, .null, .int 0, .int 0, .int 0, .int 0, .int 0]))) ++ [.inr (.inr (3, [.ref (b + 1)])), .inl (9, fun _ => 0), .inr (.inr (3, [.ref (b + 3)])), .inl (9, fun _ => 0)])) (cs2 := 4) (sl2 := 20) dX2_init_24 27 rfl kX2_11 ⟨Nat.le_of_ble_eq_true rfl, Nat.le_of_ble_eq_true rfl⟩ (MX3_init (N := 9) (by decide) (by decide) (sp_b hb rfl) (sp_len hb) (h9 := (h.set k (.inr (.inr (2, [.ref (b + 0), .null, .null, .null, .null, .int 0, .int 0, .int 0, .int 0, .int 0]))) ++ [.inr (.inr (3, [.ref (b + 1)])), .inl (9, fun _ => 0), .inr (.inr (3, [.ref (b + 3)])), .inl (9, fun _ => 0)])) (sp_call hk hb)) rfl (Nat.le_of_ble_eq_true rfl) (Nat.le_of_ble_eq_true rfl) (Nat.le_of_ble_eq_true rfl) rfl rfl ?_
  refine g_putF dX2_init_27 30 rfl lX2_20 wrX2 rfl rfl rfl rfl rfl rfl (sp_k hk) (Nat.le_of_ble_eq_true rfl) (h' := (h.set k (.inr (.inr (2, [.ref (b + 0), .ref (b + 2), .null, .null, .null, .int 0, .int 0, .int 0, .int 0, .int 0]))) ++ [.inr (.inr (3, [.ref (b + 1)])), .inl (9, fun _ => 0), .inr (.inr (3, [.ref (b + 3)])), .inl (9, fun _ => 0)])) (sp_ks hk) ?_
  refine g_aload_n dX2_init_30 rfl 31 rfl rfl ?_
  refine g_new (ci := 3) (r := (RX3, TX3, 1)) (fs := [.null]) dX2_init_31 34 rfl rfl rfl inX3 tyX3 tyX3_ok nX2_9 icX3 itX3 nfX3 rfl (Nat.le_of_ble_eq_true rfl) (Nat.le_of_ble_eq_true rfl) (b := b + 4) (sp_len hb) (N := 1) rfl ?_
  refine gCast (h2 := (h.set k (.inr (.inr (2, [.ref (b + 0), .ref (b + 2), .null, .null, .null, .int 0, .int 0, .int 0, .int 0, .int 0]))) ++ [.inr (.inr (3, [.ref (b + 1)])), .inl (9, fun _ => 0), .inr (.inr (3, [.ref (b + 3)])), .inl (9, fun _ => 0), .inr (.inr (3, [.null]))])) (List.append_assoc _ _ _) ?_
  refine g_dup dX2_init_34 35 rfl rfl ?_
  refine g_bipush 9 dX2_init_35 37 rfl (by decide) ?_
  refine g_kI (as := [.int 9]) (st := [.ref (b + 4), .ref k]) (h1 := (h.set k (.inr (.inr (2, [.ref (b + 0), .ref (b + 2), .null, .null, .null, .int 0, .int 0, .int 0, .int 0, .int 0]))) ++ [.inr (.inr (3, [.ref (b + 1)])), .inl (9, fun _ => 0), .inr (.inr (3, [.ref (b + 3)])), .inl (9, fun _ => 0), .inr (.inr (3, [.ref (b + 5)])), .inl (9, fun _ => 0)])) (cs2 := 6) (sl2 := 30) dX2_init_37 40 rfl kX2_11 ⟨Nat.le_of_ble_eq_true rfl, Nat.le_of_ble_eq_true rfl⟩ (MX3_init (N := 9) (by decide) (by decide) (sp_b hb rfl) (sp_len hb) (h9 := (h.set k (.inr (.inr (2, [.ref (b + 0), .ref (b + 2), .null, .null, .null, .int 0, .int 0, .int 0, .int 0, .int 0]))) ++ [.inr (.inr (3, [.ref (b + 1)])), .inl (9, fun _ => 0), .inr (.inr (3, [.ref (b + 3)])), .inl (9, fun _ => 0), .inr (.inr (3, [.ref (b + 5)])), .inl (9, fun _ => 0)])) (sp_call hk hb)) rfl (Nat.le_of_ble_eq_true rfl) (Nat.le_of_ble_eq_true rfl) (Nat.le_of_ble_eq_true rfl) rfl rfl ?_
  refine g_putF dX2_init_40 43 rfl lX2_23 wrX2 rfl rfl rfl rfl rfl rfl (sp_k hk) (Nat.le_of_ble_eq_true rfl) (h' := (h.set k (.inr (.inr (2, [.ref (b + 0), .ref (b + 2), .ref (b + 4), .null, .null, .int 0, .int 0, .int 0, .int 0, .int 0]))) ++ [.inr (.inr (3, [.ref (b + 1)])), .inl (9, fun _ => 0), .inr (.inr (3, [.ref (b + 3)])), .inl (9, fun _ => 0), .inr (.inr (3, [.ref (b + 5)])), .inl (9, fun _ => 0)])) (sp_ks hk) ?_
  refine g_aload_n dX2_init_43 rfl 44 rfl rfl ?_
  refine g_new (ci := 3) (r := (RX3, TX3, 1)) (fs := [.null]) dX2_init_44 47 rfl rfl rfl inX3 tyX3 tyX3_ok nX2_9 icX3 itX3 nfX3 rfl (Nat.le_of_ble_eq_true rfl) (Nat.le_of_ble_eq_true rfl) (b := b + 6) (sp_len hb) (N := 1) rfl ?_
  refine gCast (h2 := (h.set k (.inr (.inr (2, [.ref (b + 0), .ref (b + 2), .ref (b + 4), .null, .null, .int 0, .int 0, .int 0, .int 0, .int 0]))) ++ [.inr (.inr (3, [.ref (b + 1)])), .inl (9, fun _ => 0), .inr (.inr (3, [.ref (b + 3)])), .inl (9, fun _ => 0), .inr (.inr (3, [.ref (b + 5)])), .inl (9, fun _ => 0), .inr (.inr (3, [.null]))])) (List.append_assoc _ _ _) ?_
  refine g_dup dX2_init_47 48 rfl rfl ?_
  refine g_bipush 9 dX2_init_48 50 rfl (by decide) ?_
  refine g_kI (as := [.int 9]) (st := [.ref (b + 6), .ref k]) (h1 := (h.set k (.inr (.inr (2, [.ref (b + 0), .ref (b + 2), .ref (b + 4), .null, .null, .int 0, .int 0, .int 0, .int 0, .int 0]))) ++ [.inr (.inr (3, [.ref (b + 1)])), .inl (9, fun _ => 0), .inr (.inr (3, [.ref (b + 3)])), .inl (9, fun _ => 0), .inr (.inr (3, [.ref (b + 5)])), .inl (9, fun _ => 0), .inr (.inr (3, [.ref (b + 7)])), .inl (9, fun _ => 0)])) (cs2 := 8) (sl2 := 40) dX2_init_50 53 rfl kX2_11 ⟨Nat.le_of_ble_eq_true rfl, Nat.le_of_ble_eq_true rfl⟩ (MX3_init (N := 9) (by decide) (by decide) (sp_b hb rfl) (sp_len hb) (h9 := (h.set k (.inr (.inr (2, [.ref (b + 0), .ref (b + 2), .ref (b + 4), .null, .null, .int 0, .int 0, .int 0, .int 0, .int 0]))) ++ [.inr (.inr (3, [.ref (b + 1)])), .inl (9, fun _ => 0), .inr (.inr (3, [.ref (b + 3)])), .inl (9, fun _ => 0), .inr (.inr (3, [.ref (b + 5)])), .inl (9, fun _ => 0), .inr (.inr (3, [.ref (b + 7)])), .inl (9, fun _ => 0)])) (sp_call hk hb)) rfl (Nat.le_of_ble_eq_true rfl) (Nat.le_of_ble_eq_true rfl) (Nat.le_of_ble_eq_true rfl) rfl rfl ?_
  refine g_putF dX2_init_53 56 rfl lX2_26 wrX2 rfl rfl rfl rfl rfl rfl (sp_k hk) (Nat.le_of_ble_eq_true rfl) (h' := (h.set k (.inr (.inr (2, [.ref (b + 0), .ref (b + 2), .ref (b + 4), .ref (b + 6), .null, .int 0, .int 0, .int 0, .int 0, .int 0]))) ++ [.inr (.inr (3, [.ref (b + 1)])), .inl (9, fun _ => 0), .inr (.inr (3, [.ref (b + 3)])), .inl (9, fun _ => 0), .inr (.inr (3, [.ref (b + 5)])), .inl (9, fun _ => 0), .inr (.inr (3, [.ref (b + 7)])), .inl (9, fun _ => 0)])) (sp_ks hk) ?_
  refine g_aload_n dX2_init_56 rfl 57 rfl rfl ?_
  refine g_new (ci := 3) (r := (RX3, TX3, 1)) (fs := [.null]) dX2_init_57 60 rfl rfl rfl inX3 tyX3 tyX3_ok nX2_9 icX3 itX3 nfX3 rfl (Nat.le_of_ble_eq_true rfl) (Nat.le_of_ble_eq_true rfl) (b := b + 8) (sp_len hb) (N := 1) rfl ?_
  refine gCast (h2 := (h.set k (.inr (.inr (2, [.ref (b + 0), .ref (b + 2), .ref (b + 4), .ref (b + 6), .null, .int 0, .int 0, .int 0, .int 0, .int 0]))) ++ [.inr (.inr (3, [.ref (b + 1)])), .inl (9, fun _ => 0), .inr (.inr (3, [.ref (b + 3)])), .inl (9, fun _ => 0), .inr (.inr (3, [.ref (b + 5)])), .inl (9, fun _ => 0), .inr (.inr (3, [.ref (b + 7)])), .inl (9, fun _ => 0), .inr (.inr (3, [.null]))])) (List.append_assoc _ _ _) ?_
  refine g_dup dX2_init_60 61 rfl rfl ?_
  refine g_bipush 6 dX2_init_61 63 rfl (by decide) ?_
  refine g_kI (as := [.int 6]) (st := [.ref (b + 8), .ref k]) (h1 := (h.set k (.inr (.inr (2, [.ref (b + 0), .ref (b + 2), .ref (b + 4), .ref (b + 6), .null, .int 0, .int 0, .int 0, .int 0, .int 0]))) ++ [.inr (.inr (3, [.ref (b + 1)])), .inl (9, fun _ => 0), .inr (.inr (3, [.ref (b + 3)])), .inl (9, fun _ => 0), .inr (.inr (3, [.ref (b + 5)])), .inl (9, fun _ => 0), .inr (.inr (3, [.ref (b + 7)])), .inl (9, fun _ => 0), .inr (.inr (3, [.ref (b + 9)])), .inl (6, fun _ => 0)])) (cs2 := 10) (sl2 := 47) dX2_init_63 66 rfl kX2_11 ⟨Nat.le_of_ble_eq_true rfl, Nat.le_of_ble_eq_true rfl⟩ (MX3_init (N := 6) (by decide) (by decide) (sp_b hb rfl) (sp_len hb) (h9 := (h.set k (.inr (.inr (2, [.ref (b + 0), .ref (b + 2), .ref (b + 4), .ref (b + 6), .null, .int 0, .int 0, .int 0, .int 0, .int 0]))) ++ [.inr (.inr (3, [.ref (b + 1)])), .inl (9, fun _ => 0), .inr (.inr (3, [.ref (b + 3)])), .inl (9, fun _ => 0), .inr (.inr (3, [.ref (b + 5)])), .inl (9, fun _ => 0), .inr (.inr (3, [.ref (b + 7)])), .inl (9, fun _ => 0), .inr (.inr (3, [.ref (b + 9)])), .inl (6, fun _ => 0)])) (sp_call hk hb)) rfl (Nat.le_of_ble_eq_true rfl) (Nat.le_of_ble_eq_true rfl) (Nat.le_of_ble_eq_true rfl) rfl rfl ?_
  refine g_putF dX2_init_66 69 rfl lX2_29 wrX2 rfl rfl rfl rfl rfl rfl (sp_k hk) (Nat.le_of_ble_eq_true rfl) (h' := (h.set k (.inr (.inr (2, [.ref (b + 0), .ref (b + 2), .ref (b + 4), .ref (b + 6), .ref (b + 8), .int 0, .int 0, .int 0, .int 0, .int 0]))) ++ [.inr (.inr (3, [.ref (b + 1)])), .inl (9, fun _ => 0), .inr (.inr (3, [.ref (b + 3)])), .inl (9, fun _ => 0), .inr (.inr (3, [.ref (b + 5)])), .inl (9, fun _ => 0), .inr (.inr (3, [.ref (b + 7)])), .inl (9, fun _ => 0), .inr (.inr (3, [.ref (b + 9)])), .inl (6, fun _ => 0)])) (sp_ks hk) ?_
  exact g_return dX2_init_69 rfl (Nat.le_of_ble_eq_true rfl) (Nat.le_of_ble_eq_true rfl) ⟨rfl, rfl⟩
set_option maxRecDepth 100000 in
set_option maxHeartbeats 4000000 in
theorem MX6_init {w : gW} {h : gH} {k b : Nat} {r1 : Nat} (hk : h[k]? = some (.inr (.inr (6, [.null, .null, .int 0, .int 0, .int 0, .int 0, .int 0, .int 0])))) (hb : h.length = b) {h9 : gH} (h9e : (h.set k (.inr (.inr (6, [.ref r1, .ref (b + 0), .int 0, .int 0, .int 0, .int 0, .int 0, .int 0]))) ++ [.inr (.inr (3, [.ref (b + 1)])), .inl (9, fun _ => 0)]) = h9) : M w gT0 true mX6_init 2 10 h [.ref k, .ref r1] (gEq h9 none) := by
  subst h9e
  refine M.of (L0 := [.ref k, .ref r1]) (by decide +kernel) (Nat.le_of_ble_eq_true rfl) rfl ?_
  refine gCast (h2 := (h.set k (.inr (.inr (6, [.null, .null, .int 0, .int 0, .int 0, .int 0, .int 0, .int 0]))) ++ [])) (sp_0 hk) ?_
  refine g_aload_n dX6_init_0 rfl 1 rfl rfl ?_
  refine g_objInit dX6_init_1 4 rfl oX6_3 wOi wOc (by decide) (by decide) (by decide) ?_
  refine g_aload_n dX6_init_4 rfl 5 rfl rfl ?_
  refine g_new (ci := 3) (r := (RX3, TX3, 1)) (fs := [.null]) dX6_init_5 8 rfl rfl rfl inX3 tyX3 tyX3_ok nX6_9 icX3 itX3 nfX3 rfl (Nat.le_of_ble_eq_true rfl) (Nat.le_of_ble_eq_true rfl) (b := b + 0) (sp_len hb) (N := 1) rfl ?_
  refine gCast (h2 := (h.set k (.inr (.inr (6, [.null, .null, .int 0, .int 0, .int 0, .int 0, .int 0, .int 0]))) ++ [.inr (.inr (3, [.null]))])) (List.append_assoc _ _ _) ?_
  refine g_dup dX6_init_8 9 rfl rfl ?_
  refine g_bipush 9 dX6_init_9 11 rfl (by decide) ?_
  refine g_kI (as := [.int 9]) (st := [.ref (b + 0), .ref k]) (h1 := (h.set k (.inr (.inr (6, [.null, .null, .int 0, .int 0, .int 0, .int 0, .int 0, .int 0]))) ++ [.inr (.inr (3, [.ref (b + 1)])), .inl (9, fun _ => 0)])) (cs2 := 2) (sl2 := 10) dX6_init_11 14 rfl kX6_11 ⟨Nat.le_of_ble_eq_true rfl, Nat.le_of_ble_eq_true rfl⟩ (MX3_init (N := 9) (by decide) (by decide) (sp_b hb rfl) (sp_len hb) (h9 := (h.set k (.inr (.inr (6, [.null, .null, .int 0, .int 0, .int 0, .int 0, .int 0, .int 0]))) ++ [.inr (.inr (3, [.ref (b + 1)])), .inl (9, fun _ => 0)])) (sp_call hk hb)) rfl (Nat.le_of_ble_eq_true rfl) (Nat.le_of_ble_eq_true rfl) (Nat.le_of_ble_eq_true rfl) rfl rfl ?_
  refine g_putF dX6_init_14 17 rfl lX6_14 wrX6 rfl rfl rfl rfl rfl rfl (sp_k hk) (Nat.le_of_ble_eq_true rfl) (h' := (h.set k (.inr (.inr (6, [.null, .ref (b + 0), .int 0, .int 0, .int 0, .int 0, .int 0, .int 0]))) ++ [.inr (.inr (3, [.ref (b + 1)])), .inl (9, fun _ => 0)])) (sp_ks hk) ?_
  refine g_aload_n dX6_init_17 rfl 18 rfl rfl ?_
  refine g_aload_n dX6_init_18 rfl 19 rfl rfl ?_
  refine g_putF dX6_init_19 22 rfl lX6_20 wrX6 rfl rfl rfl rfl rfl rfl (sp_k hk) (Nat.le_of_ble_eq_true rfl) (h' := (h.set k (.inr (.inr (6, [.ref r1, .ref (b + 0), .int 0, .int 0, .int 0, .int 0, .int 0, .int 0]))) ++ [.inr (.inr (3, [.ref (b + 1)])), .inl (9, fun _ => 0)])) (sp_ks hk) ?_
  exact g_return dX6_init_22 rfl (Nat.le_of_ble_eq_true rfl) (Nat.le_of_ble_eq_true rfl) ⟨rfl, rfl⟩
set_option maxRecDepth 100000 in
set_option maxHeartbeats 4000000 in
theorem MX8_init {w : gW} {h : gH} {k b : Nat} (hk : h[k]? = some (.inr (.inr (8, [.null, .null, .int 0])))) (hb : h.length = b) {h9 : gH} (h9e : (h.set k (.inr (.inr (8, [.ref (b + 0), .ref (b + 2), .int 0]))) ++ [.inr (.inr (3, [.ref (b + 1)])), .inl (5, fun _ => 0), .inr (.inr (3, [.ref (b + 3)])), .inl (5, fun _ => 0)]) = h9) : M w gT0 true mX8_init 4 12 h [.ref k] (gEq h9 none) := by
  subst h9e
  refine M.of (L0 := [.ref k]) (by decide +kernel) (Nat.le_of_ble_eq_true rfl) rfl ?_
  refine gCast (h2 := (h.set k (.inr (.inr (8, [.null, .null, .int 0]))) ++ [])) (sp_0 hk) ?_
  refine g_aload_n dX8_init_0 rfl 1 rfl rfl ?_
  refine g_objInit dX8_init_1 4 rfl oX8_3 wOi wOc (by decide) (by decide) (by decide) ?_
  refine g_aload_n dX8_init_4 rfl 5 rfl rfl ?_
  refine g_new (ci := 3) (r := (RX3, TX3, 1)) (fs := [.null]) dX8_init_5 8 rfl rfl rfl inX3 tyX3 tyX3_ok nX8_9 icX3 itX3 nfX3 rfl (Nat.le_of_ble_eq_true rfl) (Nat.le_of_ble_eq_true rfl) (b := b + 0) (sp_len hb) (N := 1) rfl ?_
  refine gCast (h2 := (h.set k (.inr (.inr (8, [.null, .null, .int 0]))) ++ [.inr (.inr (3, [.null]))])) (List.append_assoc _ _ _) ?_
  refine g_dup dX8_init_8 9 rfl rfl ?_
  refine g_iconst 5 dX8_init_9 10 rfl (by decide) ?_
  refine g_kI (as := [.int 5]) (st := [.ref (b + 0), .ref k]) (h1 := (h.set k (.inr (.inr (8, [.null, .null, .int 0]))) ++ [.inr (.inr (3, [.ref (b + 1)])), .inl (5, fun _ => 0)])) (cs2 := 2) (sl2 := 6) dX8_init_10 13 rfl kX8_11 ⟨Nat.le_of_ble_eq_true rfl, Nat.le_of_ble_eq_true rfl⟩ (MX3_init (N := 5) (by decide) (by decide) (sp_b hb rfl) (sp_len hb) (h9 := (h.set k (.inr (.inr (8, [.null, .null, .int 0]))) ++ [.inr (.inr (3, [.ref (b + 1)])), .inl (5, fun _ => 0)])) (sp_call hk hb)) rfl (Nat.le_of_ble_eq_true rfl) (Nat.le_of_ble_eq_true rfl) (Nat.le_of_ble_eq_true rfl) rfl rfl ?_
  refine g_putF dX8_init_13 16 rfl lX8_14 wrX8 rfl rfl rfl rfl rfl rfl (sp_k hk) (Nat.le_of_ble_eq_true rfl) (h' := (h.set k (.inr (.inr (8, [.ref (b + 0), .null, .int 0]))) ++ [.inr (.inr (3, [.ref (b + 1)])), .inl (5, fun _ => 0)])) (sp_ks hk) ?_
  refine g_aload_n dX8_init_16 rfl 17 rfl rfl ?_
  refine g_new (ci := 3) (r := (RX3, TX3, 1)) (fs := [.null]) dX8_init_17 20 rfl rfl rfl inX3 tyX3 tyX3_ok nX8_9 icX3 itX3 nfX3 rfl (Nat.le_of_ble_eq_true rfl) (Nat.le_of_ble_eq_true rfl) (b := b + 2) (sp_len hb) (N := 1) rfl ?_
  refine gCast (h2 := (h.set k (.inr (.inr (8, [.ref (b + 0), .null, .int 0]))) ++ [.inr (.inr (3, [.ref (b + 1)])), .inl (5, fun _ => 0), .inr (.inr (3, [.null]))])) (List.append_assoc _ _ _) ?_
  refine g_dup dX8_init_20 21 rfl rfl ?_
  refine g_iconst 5 dX8_init_21 22 rfl (by decide) ?_
  refine g_kI (as := [.int 5]) (st := [.ref (b + 2), .ref k]) (h1 := (h.set k (.inr (.inr (8, [.ref (b + 0), .null, .int 0]))) ++ [.inr (.inr (3, [.ref (b + 1)])), .inl (5, fun _ => 0), .inr (.inr (3, [.ref (b + 3)])), .inl (5, fun _ => 0)])) (cs2 := 4) (sl2 := 12) dX8_init_22 25 rfl kX8_11 ⟨Nat.le_of_ble_eq_true rfl, Nat.le_of_ble_eq_true rfl⟩ (MX3_init (N := 5) (by decide) (by decide) (sp_b hb rfl) (sp_len hb) (h9 := (h.set k (.inr (.inr (8, [.ref (b + 0), .null, .int 0]))) ++ [.inr (.inr (3, [.ref (b + 1)])), .inl (5, fun _ => 0), .inr (.inr (3, [.ref (b + 3)])), .inl (5, fun _ => 0)])) (sp_call hk hb)) rfl (Nat.le_of_ble_eq_true rfl) (Nat.le_of_ble_eq_true rfl) (Nat.le_of_ble_eq_true rfl) rfl rfl ?_
  refine g_putF dX8_init_25 28 rfl lX8_20 wrX8 rfl rfl rfl rfl rfl rfl (sp_k hk) (Nat.le_of_ble_eq_true rfl) (h' := (h.set k (.inr (.inr (8, [.ref (b + 0), .ref (b + 2), .int 0]))) ++ [.inr (.inr (3, [.ref (b + 1)])), .inl (5, fun _ => 0), .inr (.inr (3, [.ref (b + 3)])), .inl (5, fun _ => 0)])) (sp_ks hk) ?_
  exact g_return dX8_init_28 rfl (Nat.le_of_ble_eq_true rfl) (Nat.le_of_ble_eq_true rfl) ⟨rfl, rfl⟩
set_option maxRecDepth 100000 in
set_option maxHeartbeats 4000000 in
theorem MX4_init {w : gW} {h : gH} {k b : Nat} {r1 r2 : Nat} (hk : h[k]? = some (.inr (.inr (4, [.null, .null, .null, .null, .null, .null, .int 0, .int 0, .int 0])))) (hb : h.length = b) {h9 : gH} (h9e : (h.set k (.inr (.inr (4, [.ref r1, .ref r2, .ref (b + 0), .ref (b + 2), .ref (b + 4), .ref (b + 6), .int 0, .int 0, .int 0]))) ++ [.inr (.inr (3, [.ref (b + 1)])), .inl (512, fun _ => 0), .inr (.inr (3, [.ref (b + 3)])), .inl (512, fun _ => 0), .inr (.inr (3, [.ref (b + 5)])), .inl (512, fun _ => 0), .inr (.inr (3, [.ref (b + 7)])), .inl (892, fun _ => 0)]) = h9) : M w gT0 true mX4_init 8 2432 h [.ref k, .ref r1, .ref r2] (gEq h9 none) := by
  subst h9e
  refine M.of (L0 := [.ref k, .ref r1, .ref r2]) (by decide +kernel) (Nat.le_of_ble_eq_true rfl) rfl ?_
  refine gCast (h2 := (h.set k (.inr (.inr (4, [.null, .null, .null, .null, .null, .null, .int 0, .int 0, .int 0]))) ++ [])) (sp_0 hk) ?_
  refine g_aload_n dX4_init_0 rfl 1 rfl rfl ?_
  refine g_objInit dX4_init_1 4 rfl oX4_3 wOi wOc (by decide) (by decide) (by decide) ?_
  refine g_aload_n dX4_init_4 rfl 5 rfl rfl ?_
  refine g_new (ci := 3) (r := (RX3, TX3, 1)) (fs := [.null]) dX4_init_5 8 rfl rfl rfl inX3 tyX3 tyX3_ok nX4_9 icX3 itX3 nfX3 rfl (Nat.le_of_ble_eq_true rfl) (Nat.le_of_ble_eq_true rfl) (b := b + 0) (sp_len hb) (N := 1) rfl ?_
  refine gCast (h2 := (h.set k (.inr (.inr (4, [.null, .null, .null, .null, .null, .null, .int 0, .int 0, .int 0]))) ++ [.inr (.inr (3, [.null]))])) (List.append_assoc _ _ _) ?_
  refine g_dup dX4_init_8 9 rfl rfl ?_
  refine g_sipush 512 dX4_init_9 12 rfl (by decide) ?_
  refine g_kI (as := [.int 512]) (st := [.ref (b + 0), .ref k]) (h1 := (h.set k (.inr (.inr (4, [.null, .null, .null, .null, .null, .null, .int 0, .int 0, .int 0]))) ++ [.inr (.inr (3, [.ref (b + 1)])), .inl (512, fun _ => 0)])) (cs2 := 2) (sl2 := 513) dX4_init_12 15 rfl kX4_11 ⟨Nat.le_of_ble_eq_true rfl, Nat.le_of_ble_eq_true rfl⟩ (MX3_init (N := 512) (by decide) (by decide) (sp_b hb rfl) (sp_len hb) (h9 := (h.set k (.inr (.inr (4, [.null, .null, .null, .null, .null, .null, .int 0, .int 0, .int 0]))) ++ [.inr (.inr (3, [.ref (b + 1)])), .inl (512, fun _ => 0)])) (sp_call hk hb)) rfl (Nat.le_of_ble_eq_true rfl) (Nat.le_of_ble_eq_true rfl) (Nat.le_of_ble_eq_true rfl) rfl rfl ?_
  refine g_putF dX4_init_15 18 rfl lX4_14 wrX4 rfl rfl rfl rfl rfl rfl (sp_k hk) (Nat.le_of_ble_eq_true rfl) (h' := (h.set k (.inr (.inr (4, [.null, .null, .ref (b + 0), .null, .null, .null, .int 0, .int 0, .int 0]))) ++ [.inr (.inr (3, [.ref (b + 1)])), .inl (512, fun _ => 0)])) (sp_ks hk) ?_
  refine g_aload_n dX4_init_18 rfl 19 rfl rfl ?_
  refine g_new (ci := 3) (r := (RX3, TX3, 1)) (fs := [.null]) dX4_init_19 22 rfl rfl rfl inX3 tyX3 tyX3_ok nX4_9 icX3 itX3 nfX3 rfl (Nat.le_of_ble_eq_true rfl) (Nat.le_of_ble_eq_true rfl) (b := b + 2) (sp_len hb) (N := 1) rfl ?_
  refine gCast (h2 := (h.set k (.inr (.inr (4, [.null, .null, .ref (b + 0), .null, .null, .null, .int 0, .int 0, .int 0]))) ++ [.inr (.inr (3, [.ref (b + 1)])), .inl (512, fun _ => 0), .inr (.inr (3, [.null]))])) (List.append_assoc _ _ _) ?_
  refine g_dup dX4_init_22 23 rfl rfl ?_
  refine g_sipush 512 dX4_init_23 26 rfl (by decide) ?_
  refine g_kI (as := [.int 512]) (st := [.ref (b + 2), .ref k]) (h1 := (h.set k (.inr (.inr (4, [.null, .null, .ref (b + 0), .null, .null, .null, .int 0, .int 0, .int 0]))) ++ [.inr (.inr (3, [.ref (b + 1)])), .inl (512, fun _ => 0), .inr (.inr (3, [.ref (b + 3)])), .inl (512, fun _ => 0)])) (cs2 := 4) (sl2 := 1026) dX4_init_26 29 rfl kX4_11 ⟨Nat.le_of_ble_eq_true rfl, Nat.le_of_ble_eq_true rfl⟩ (MX3_init (N := 512) (by decide) (by decide) (sp_b hb rfl) (sp_len hb) (h9 := (h.set k (.inr (.inr (4, [.null, .null, .ref (b + 0), .null, .null, .null, .int 0, .int 0, .int 0]))) ++ [.inr (.inr (3, [.ref (b + 1)])), .inl (512, fun _ => 0), .inr (.inr (3, [.ref (b + 3)])), .inl (512, fun _ => 0)])) (sp_call hk hb)) rfl (Nat.le_of_ble_eq_true rfl) (Nat.le_of_ble_eq_true rfl) (Nat.le_of_ble_eq_true rfl) rfl rfl ?_
  refine g_putF dX4_init_29 32 rfl lX4_20 wrX4 rfl rfl rfl rfl rfl rfl (sp_k hk) (Nat.le_of_ble_eq_true rfl) (h' := (h.set k (.inr (.inr (4, [.null, .null, .ref (b + 0), .ref (b + 2), .null, .null, .int 0, .int 0, .int 0]))) ++ [.inr (.inr (3, [.ref (b + 1)])), .inl (512, fun _ => 0), .inr (.inr (3, [.ref (b + 3)])), .inl (512, fun _ => 0)])) (sp_ks hk) ?_
  refine g_aload_n dX4_init_32 rfl 33 rfl rfl ?_
  refine g_new (ci := 3) (r := (RX3, TX3, 1)) (fs := [.null]) dX4_init_33 36 rfl rfl rfl inX3 tyX3 tyX3_ok nX4_9 icX3 itX3 nfX3 rfl (Nat.le_of_ble_eq_true rfl) (Nat.le_of_ble_eq_true rfl) (b := b + 4) (sp_len hb) (N := 1) rfl ?_
  refine gCast (h2 := (h.set k (.inr (.inr (4, [.null, .null, .ref (b + 0), .ref (b + 2), .null, .null, .int 0, .int 0, .int 0]))) ++ [.inr (.inr (3, [.ref (b + 1)])), .inl (512, fun _ => 0), .inr (.inr (3, [.ref (b + 3)])), .inl (512, fun _ => 0), .inr (.inr (3, [.null]))])) (List.append_assoc _ _ _) ?_
  refine g_dup dX4_init_36 37 rfl rfl ?_
  refine g_sipush 512 dX4_init_37 40 rfl (by decide) ?_
  refine g_kI (as := [.int 512]) (st := [.ref (b + 4), .ref k]) (h1 := (h.set k (.inr (.inr (4, [.null, .null, .ref (b + 0), .ref (b + 2), .null, .null, .int 0, .int 0, .int 0]))) ++ [.inr (.inr (3, [.ref (b + 1)])), .inl (512, fun _ => 0), .inr (.inr (3, [.ref (b + 3)])), .inl (512, fun _ => 0), .inr (.inr (3, [.ref (b + 5)])), .inl (512, fun _ => 0)])) (cs2 := 6) (sl2 := 1539) dX4_init_40 43 rfl kX4_11 ⟨Nat.le_of_ble_eq_true rfl, Nat.le_of_ble_eq_true rfl⟩ (MX3_init (N := 512) (by decide) (by decide) (sp_b hb rfl) (sp_len hb) (h9 := (h.set k (.inr (.inr (4, [.null, .null, .ref (b + 0), .ref (b + 2), .null, .null, .int 0, .int 0, .int 0]))) ++ [.inr (.inr (3, [.ref (b + 1)])), .inl (512, fun _ => 0), .inr (.inr (3, [.ref (b + 3)])), .inl (512, fun _ => 0), .inr (.inr (3, [.ref (b + 5)])), .inl (512, fun _ => 0)])) (sp_call hk hb)) rfl (Nat.le_of_ble_eq_true rfl) (Nat.le_of_ble_eq_true rfl) (Nat.le_of_ble_eq_true rfl) rfl rfl ?_
  refine g_putF dX4_init_43 46 rfl lX4_23 wrX4 rfl rfl rfl rfl rfl rfl (sp_k hk) (Nat.le_of_ble_eq_true rfl) (h' := (h.set k (.inr (.inr (4, [.null, .null, .ref (b + 0), .ref (b + 2), .ref (b + 4), .null, .int 0, .int 0, .int 0]))) ++ [.inr (.inr (3, [.ref (b + 1)])), .inl (512, fun _ => 0), .inr (.inr (3, [.ref (b + 3)])), .inl (512, fun _ => 0), .inr (.inr (3, [.ref (b + 5)])), .inl (512, fun _ => 0)])) (sp_ks hk) ?_
  refine g_aload_n dX4_init_46 rfl 47 rfl rfl ?_
  refine g_new (ci := 3) (r := (RX3, TX3, 1)) (fs := [.null]) dX4_init_47 50 rfl rfl rfl inX3 tyX3 tyX3_ok nX4_9 icX3 itX3 nfX3 rfl (Nat.le_of_ble_eq_true rfl) (Nat.le_of_ble_eq_true rfl) (b := b + 6) (sp_len hb) (N := 1) rfl ?_
  refine gCast (h2 := (h.set k (.inr (.inr (4, [.null, .null, .ref (b + 0), .ref (b + 2), .ref (b + 4), .null, .int 0, .int 0, .int 0]))) ++ [.inr (.inr (3, [.ref (b + 1)])), .inl (512, fun _ => 0), .inr (.inr (3, [.ref (b + 3)])), .inl (512, fun _ => 0), .inr (.inr (3, [.ref (b + 5)])), .inl (512, fun _ => 0), .inr (.inr (3, [.null]))])) (List.append_assoc _ _ _) ?_
  refine g_dup dX4_init_50 51 rfl rfl ?_
  refine g_sipush 892 dX4_init_51 54 rfl (by decide) ?_
  refine g_kI (as := [.int 892]) (st := [.ref (b + 6), .ref k]) (h1 := (h.set k (.inr (.inr (4, [.null, .null, .ref (b + 0), .ref (b + 2), .ref (b + 4), .null, .int 0, .int 0, .int 0]))) ++ [.inr (.inr (3, [.ref (b + 1)])), .inl (512, fun _ => 0), .inr (.inr (3, [.ref (b + 3)])), .inl (512, fun _ => 0), .inr (.inr (3, [.ref (b + 5)])), .inl (512, fun _ => 0), .inr (.inr (3, [.ref (b + 7)])), .inl (892, fun _ => 0)])) (cs2 := 8) (sl2 := 2432) dX4_init_54 57 rfl kX4_11 ⟨Nat.le_of_ble_eq_true rfl, Nat.le_of_ble_eq_true rfl⟩ (MX3_init (N := 892) (by decide) (by decide) (sp_b hb rfl) (sp_len hb) (h9 := (h.set k (.inr (.inr (4, [.null, .null, .ref (b + 0), .ref (b + 2), .ref (b + 4), .null, .int 0, .int 0, .int 0]))) ++ [.inr (.inr (3, [.ref (b + 1)])), .inl (512, fun _ => 0), .inr (.inr (3, [.ref (b + 3)])), .inl (512, fun _ => 0), .inr (.inr (3, [.ref (b + 5)])), .inl (512, fun _ => 0), .inr (.inr (3, [.ref (b + 7)])), .inl (892, fun _ => 0)])) (sp_call hk hb)) rfl (Nat.le_of_ble_eq_true rfl) (Nat.le_of_ble_eq_true rfl) (Nat.le_of_ble_eq_true rfl) rfl rfl ?_
  refine g_putF dX4_init_57 60 rfl lX4_26 wrX4 rfl rfl rfl rfl rfl rfl (sp_k hk) (Nat.le_of_ble_eq_true rfl) (h' := (h.set k (.inr (.inr (4, [.null, .null, .ref (b + 0), .ref (b + 2), .ref (b + 4), .ref (b + 6), .int 0, .int 0, .int 0]))) ++ [.inr (.inr (3, [.ref (b + 1)])), .inl (512, fun _ => 0), .inr (.inr (3, [.ref (b + 3)])), .inl (512, fun _ => 0), .inr (.inr (3, [.ref (b + 5)])), .inl (512, fun _ => 0), .inr (.inr (3, [.ref (b + 7)])), .inl (892, fun _ => 0)])) (sp_ks hk) ?_
  refine g_aload_n dX4_init_60 rfl 61 rfl rfl ?_
  refine g_aload_n dX4_init_61 rfl 62 rfl rfl ?_
  refine g_putF dX4_init_62 65 rfl lX4_29 wrX4 rfl rfl rfl rfl rfl rfl (sp_k hk) (Nat.le_of_ble_eq_true rfl) (h' := (h.set k (.inr (.inr (4, [.ref r1, .null, .ref (b + 0), .ref (b + 2), .ref (b + 4), .ref (b + 6), .int 0, .int 0, .int 0]))) ++ [.inr (.inr (3, [.ref (b + 1)])), .inl (512, fun _ => 0), .inr (.inr (3, [.ref (b + 3)])), .inl (512, fun _ => 0), .inr (.inr (3, [.ref (b + 5)])), .inl (512, fun _ => 0), .inr (.inr (3, [.ref (b + 7)])), .inl (892, fun _ => 0)])) (sp_ks hk) ?_
  refine g_aload_n dX4_init_65 rfl 66 rfl rfl ?_
  refine g_aload_n dX4_init_66 rfl 67 rfl rfl ?_
  refine g_putF dX4_init_67 70 rfl lX4_33 wrX4 rfl rfl rfl rfl rfl rfl (sp_k hk) (Nat.le_of_ble_eq_true rfl) (h' := (h.set k (.inr (.inr (4, [.ref r1, .ref r2, .ref (b + 0), .ref (b + 2), .ref (b + 4), .ref (b + 6), .int 0, .int 0, .int 0]))) ++ [.inr (.inr (3, [.ref (b + 1)])), .inl (512, fun _ => 0), .inr (.inr (3, [.ref (b + 3)])), .inl (512, fun _ => 0), .inr (.inr (3, [.ref (b + 5)])), .inl (512, fun _ => 0), .inr (.inr (3, [.ref (b + 7)])), .inl (892, fun _ => 0)])) (sp_ks hk) ?_
  exact g_return dX4_init_70 rfl (Nat.le_of_ble_eq_true rfl) (Nat.le_of_ble_eq_true rfl) ⟨rfl, rfl⟩
set_option maxRecDepth 100000 in
set_option maxHeartbeats 4000000 in
theorem MX0_init {w : gW} {h : gH} {k b : Nat} {r1 : Nat} (hk : h[k]? = some (.inr (.inr (0, [.null, .null, .int 0, .int 0])))) (hb : h.length = b) {h9 : gH} (h9e : (h.set k (.inr (.inr (0, [.ref r1, .ref (b + 0), .int 0, .int 0]))) ++ [.inr (.inr (3, [.ref (b + 1)])), .inl (512, fun _ => 0)]) = h9) : M w gT0 true mX0_init 2 513 h [.ref k, .ref r1] (gEq h9 none) := by
  subst h9e
  refine M.of (L0 := [.ref k, .ref r1]) (by decide +kernel) (Nat.le_of_ble_eq_true rfl) rfl ?_
  refine gCast (h2 := (h.set k (.inr (.inr (0, [.null, .null, .int 0, .int 0]))) ++ [])) (sp_0 hk) ?_
  refine g_aload_n dX0_init_0 rfl 1 rfl rfl ?_
  refine g_objInit dX0_init_1 4 rfl oX0_3 wOi wOc (by decide) (by decide) (by decide) ?_
  refine g_aload_n dX0_init_4 rfl 5 rfl rfl ?_
  refine g_new (ci := 3) (r := (RX3, TX3, 1)) (fs := [.null]) dX0_init_5 8 rfl rfl rfl inX3 tyX3 tyX3_ok nX0_9 icX3 itX3 nfX3 rfl (Nat.le_of_ble_eq_true rfl) (Nat.le_of_ble_eq_true rfl) (b := b + 0) (sp_len hb) (N := 1) rfl ?_
  refine gCast (h2 := (h.set k (.inr (.inr (0, [.null, .null, .int 0, .int 0]))) ++ [.inr (.inr (3, [.null]))])) (List.append_assoc _ _ _) ?_
  refine g_dup dX0_init_8 9 rfl rfl ?_
  refine g_sipush 512 dX0_init_9 12 rfl (by decide) ?_
  refine g_kI (as := [.int 512]) (st := [.ref (b + 0), .ref k]) (h1 := (h.set k (.inr (.inr (0, [.null, .null, .int 0, .int 0]))) ++ [.inr (.inr (3, [.ref (b + 1)])), .inl (512, fun _ => 0)])) (cs2 := 2) (sl2 := 513) dX0_init_12 15 rfl kX0_11 ⟨Nat.le_of_ble_eq_true rfl, Nat.le_of_ble_eq_true rfl⟩ (MX3_init (N := 512) (by decide) (by decide) (sp_b hb rfl) (sp_len hb) (h9 := (h.set k (.inr (.inr (0, [.null, .null, .int 0, .int 0]))) ++ [.inr (.inr (3, [.ref (b + 1)])), .inl (512, fun _ => 0)])) (sp_call hk hb)) rfl (Nat.le_of_ble_eq_true rfl) (Nat.le_of_ble_eq_true rfl) (Nat.le_of_ble_eq_true rfl) rfl rfl ?_
  refine g_putF dX0_init_15 18 rfl lX0_14 wrX0 rfl rfl rfl rfl rfl rfl (sp_k hk) (Nat.le_of_ble_eq_true rfl) (h' := (h.set k (.inr (.inr (0, [.null, .ref (b + 0), .int 0, .int 0]))) ++ [.inr (.inr (3, [.ref (b + 1)])), .inl (512, fun _ => 0)])) (sp_ks hk) ?_
  refine g_aload_n dX0_init_18 rfl 19 rfl rfl ?_
  refine g_aload_n dX0_init_19 rfl 20 rfl rfl ?_
  refine g_putF dX0_init_20 23 rfl lX0_20 wrX0 rfl rfl rfl rfl rfl rfl (sp_k hk) (Nat.le_of_ble_eq_true rfl) (h' := (h.set k (.inr (.inr (0, [.ref r1, .ref (b + 0), .int 0, .int 0]))) ++ [.inr (.inr (3, [.ref (b + 1)])), .inl (512, fun _ => 0)])) (sp_ks hk) ?_
  exact g_return dX0_init_23 rfl (Nat.le_of_ble_eq_true rfl) (Nat.le_of_ble_eq_true rfl) ⟨rfl, rfl⟩
