/-! the walk of the law -/
/-- the law's world between calls: the class and the reference, each at its base -/
def lwW (wC wM : gW) (k : Nat) (H : Heap) : Prop := ∃ hc hm : gH, gHd wC false 86 hc H ∧ gHd wM false 11 hm H ∧ Inv k hc hm
set_option maxRecDepth 100000 in
theorem lw_c0 {p : Program} {l : Launch} {e : Env} {s : State} {m : MethodId} {below : List Frame} {meth : Method} {c : Code} {Q : State → Prop} {D : va_G} {cA cB : ClassId} {b L : Nat} {xs : Nat → Int32} (hL : L ≤ 2048) {k : Nat} (hk : 4 * k + 4 ≤ L) {H : Heap} {locs : List Loc} {ls : Array Slot} (C0 : lw_At p s m meth c b L xs) (CC : lwF p s m #[Value.ref b] c (l, D, cA, cB, s.heap.size)) (CM : lwF p s m #[Value.ref b] c (l, D, cA, cB, s.heap.size + 86)) (hS : va_S (fun q => s.heap.size ≤ q) s.heap H locs) (hw : lwW (l, D, cA, cB, s.heap.size) (l, D, cA, cB, s.heap.size + 86) k H) (hl : lv_has ls 4 [(0, .ref b), (1, .ref s.heap.size), (2, .ref (s.heap.size + 86)), (3, .int (nI (4 * k)))])
    (kk : ∀ (H' : Heap) (locs' : List Loc), va_S (fun q => s.heap.size ≤ q) s.heap H' locs' → lwW (l, D, cA, cB, s.heap.size) (l, D, cA, cB, s.heap.size + 86) (k + 1) H' → W p l e room_1 s m #[Value.ref b] below meth c H' locs' 97 5115 Q (F0 m 727 ls [])) : W p l e room_1 s m #[Value.ref b] below meth c H locs 97 5115 Q (F0 m 156 ls []) := by
  obtain ⟨hx, hb, hr, hml, hown, hts, hX, hbl, hlocks, hgv⟩ := id C0
  have hbA : ¬ (fun q : Nat => s.heap.size ≤ q) b := Nat.not_le.mpr hbl
  obtain ⟨hc, hm, X1, X2, I⟩ := hw
  obtain ⟨hc2, hm2, r, M1, M2, I2⟩ := C_write (wC := (l, D, cA, cB, s.heap.size)) (wM := (l, D, cA, cB, s.heap.size + 86)) (k := k) (by omega) (xs (4 * k + 1)) I
  obtain ⟨fs1, e1⟩ := I.obj1
  obtain ⟨fs2, e2⟩ := I.obj2
  refine lv_aload_n hx hb dL_law_156 rfl (lv_at hl 1 rfl) ?_
  refine lv_aload_n hx hb dL_law_157 rfl (lv_at hl 0 rfl) ?_
  refine lv_iload_n hx hb dL_law_158 rfl (lv_at hl 3 rfl) ?_
  refine lv_iconst (v := 1) hx hb dL_law_159 (by decide) ?_
  refine lv_iadd hx hb dL_law_160 ?_
  rw [show nI (4 * k) + 1 = nI (4 * k + 1) from nI_add _ 1]
  refine va_sld hx hb hX hbl hbA hS (vp_in_nI (by omega) (by omega)) dL_law_161 ?_
  rw [show xs (nI (4 * k + 1)).toNatClampNeg = xs (4 * k + 1) by rw [nI_clamp (by omega)]]
  refine lwc_call (w := (l, D, cA, cB, s.heap.size)) CC dL_law_162 kL_13 ⟨Nat.le_of_ble_eq_true rfl, Nat.le_of_ble_eq_true rfl⟩ M1 rfl (ci := 9) rfl rfl e1 hl.1 (rest := []) rfl (Nat.le_of_ble_eq_true rfl) X1 hS (Nat.le_refl _) (Nat.le_of_ble_eq_true rfl) (Nat.le_of_ble_eq_true rfl) (fun H1 locs1 Y1 K1 hS => ?_)
  have Y2 : gHd (l, D, cA, cB, s.heap.size + 86) false 11 hm H1 := gHd_kept X2 (fun q h1 h2 h3 => K1 q h1 (fun z => absurd z.2 (Nat.not_lt.mpr h2)))
  refine lv_aload_n hx hb dL_law_165 rfl (lv_at hl 2 rfl) ?_
  refine lv_aload_n hx hb dL_law_166 rfl (lv_at hl 0 rfl) ?_
  refine lv_iload_n hx hb dL_law_167 rfl (lv_at hl 3 rfl) ?_
  refine lv_iconst (v := 1) hx hb dL_law_168 (by decide) ?_
  refine lv_iadd hx hb dL_law_169 ?_
  rw [show nI (4 * k) + 1 = nI (4 * k + 1) from nI_add _ 1]
  refine va_sld hx hb hX hbl hbA hS (vp_in_nI (by omega) (by omega)) dL_law_170 ?_
  rw [show xs (nI (4 * k + 1)).toNatClampNeg = xs (4 * k + 1) by rw [nI_clamp (by omega)]]
  refine lwc_call (w := (l, D, cA, cB, s.heap.size + 86)) CM dL_law_171 kL_17 ⟨Nat.le_of_ble_eq_true rfl, Nat.le_of_ble_eq_true rfl⟩ M2 rfl (ci := 10) rfl rfl e2 hl.1 (rest := [.int r]) rfl (Nat.le_of_ble_eq_true rfl) Y2 hS (Nat.le_add_right _ _) (Nat.le_of_ble_eq_true rfl) (Nat.le_of_ble_eq_true rfl) (fun H2 locs2 Z2 K2 hS => ?_)
  have Z1 : gHd (l, D, cA, cB, s.heap.size) false 86 hc2 H2 := gHd_kept Y1 (fun q h1 h2 h3 => K2 q h1 (fun z => absurd h3 (Nat.not_lt.mpr z.1)))
  refine lv_icmp_eq (tgt := 727) hx hb dL_law_174 (by decide) (fun _ => ?_) (fun z => absurd rfl z)
  exact kk H2 locs2 hS ⟨hc2, hm2, Z1, Z2, I2⟩
set_option maxRecDepth 100000 in
theorem lw_c1 {p : Program} {l : Launch} {e : Env} {s : State} {m : MethodId} {below : List Frame} {meth : Method} {c : Code} {Q : State → Prop} {D : va_G} {cA cB : ClassId} {b L : Nat} {xs : Nat → Int32} (hL : L ≤ 2048) {k : Nat} (hk : 4 * k + 4 ≤ L) {H : Heap} {locs : List Loc} {ls : Array Slot} (C0 : lw_At p s m meth c b L xs) (CC : lwF p s m #[Value.ref b] c (l, D, cA, cB, s.heap.size)) (CM : lwF p s m #[Value.ref b] c (l, D, cA, cB, s.heap.size + 86)) (hS : va_S (fun q => s.heap.size ≤ q) s.heap H locs) (hw : lwW (l, D, cA, cB, s.heap.size) (l, D, cA, cB, s.heap.size + 86) k H) (hl : lv_has ls 4 [(0, .ref b), (1, .ref s.heap.size), (2, .ref (s.heap.size + 86)), (3, .int (nI (4 * k)))])
    (kk : ∀ (H' : Heap) (locs' : List Loc), va_S (fun q => s.heap.size ≤ q) s.heap H' locs' → lwW (l, D, cA, cB, s.heap.size) (l, D, cA, cB, s.heap.size + 86) (k + 1) H' → W p l e room_1 s m #[Value.ref b] below meth c H' locs' 97 5115 Q (F0 m 727 ls [])) : W p l e room_1 s m #[Value.ref b] below meth c H locs 97 5115 Q (F0 m 179 ls []) := by
  obtain ⟨hx, hb, hr, hml, hown, hts, hX, hbl, hlocks, hgv⟩ := id C0
  have hbA : ¬ (fun q : Nat => s.heap.size ≤ q) b := Nat.not_le.mpr hbl
  obtain ⟨hc, hm, X1, X2, I⟩ := hw
  obtain ⟨hc2, hm2, r, M1, M2, I2⟩ := C_wipe (wC := (l, D, cA, cB, s.heap.size)) (wM := (l, D, cA, cB, s.heap.size + 86)) (k := k) (by omega) I
  obtain ⟨fs1, e1⟩ := I.obj1
  obtain ⟨fs2, e2⟩ := I.obj2
  refine lv_aload_n hx hb dL_law_179 rfl (lv_at hl 1 rfl) ?_
  refine lwc_call (w := (l, D, cA, cB, s.heap.size)) CC dL_law_180 kL_18 ⟨Nat.le_of_ble_eq_true rfl, Nat.le_of_ble_eq_true rfl⟩ M1 rfl (ci := 9) rfl rfl e1 hl.1 (rest := []) rfl (Nat.le_of_ble_eq_true rfl) X1 hS (Nat.le_refl _) (Nat.le_of_ble_eq_true rfl) (Nat.le_of_ble_eq_true rfl) (fun H1 locs1 Y1 K1 hS => ?_)
  have Y2 : gHd (l, D, cA, cB, s.heap.size + 86) false 11 hm H1 := gHd_kept X2 (fun q h1 h2 h3 => K1 q h1 (fun z => absurd z.2 (Nat.not_lt.mpr h2)))
  refine lv_aload_n hx hb dL_law_183 rfl (lv_at hl 2 rfl) ?_
  refine lwc_call (w := (l, D, cA, cB, s.heap.size + 86)) CM dL_law_184 kL_22 ⟨Nat.le_of_ble_eq_true rfl, Nat.le_of_ble_eq_true rfl⟩ M2 rfl (ci := 10) rfl rfl e2 hl.1 (rest := [.int r]) rfl (Nat.le_of_ble_eq_true rfl) Y2 hS (Nat.le_add_right _ _) (Nat.le_of_ble_eq_true rfl) (Nat.le_of_ble_eq_true rfl) (fun H2 locs2 Z2 K2 hS => ?_)
  have Z1 : gHd (l, D, cA, cB, s.heap.size) false 86 hc2 H2 := gHd_kept Y1 (fun q h1 h2 h3 => K2 q h1 (fun z => absurd h3 (Nat.not_lt.mpr z.1)))
  refine lv_icmp_eq (tgt := 727) hx hb dL_law_187 (by decide) (fun _ => ?_) (fun z => absurd rfl z)
  exact kk H2 locs2 hS ⟨hc2, hm2, Z1, Z2, I2⟩
set_option maxRecDepth 100000 in
theorem lw_c2 {p : Program} {l : Launch} {e : Env} {s : State} {m : MethodId} {below : List Frame} {meth : Method} {c : Code} {Q : State → Prop} {D : va_G} {cA cB : ClassId} {b L : Nat} {xs : Nat → Int32} (hL : L ≤ 2048) {k : Nat} (hk : 4 * k + 4 ≤ L) {H : Heap} {locs : List Loc} {ls : Array Slot} (C0 : lw_At p s m meth c b L xs) (CC : lwF p s m #[Value.ref b] c (l, D, cA, cB, s.heap.size)) (CM : lwF p s m #[Value.ref b] c (l, D, cA, cB, s.heap.size + 86)) (hS : va_S (fun q => s.heap.size ≤ q) s.heap H locs) (hw : lwW (l, D, cA, cB, s.heap.size) (l, D, cA, cB, s.heap.size + 86) k H) (hl : lv_has ls 4 [(0, .ref b), (1, .ref s.heap.size), (2, .ref (s.heap.size + 86)), (3, .int (nI (4 * k)))])
    (kk : ∀ (H' : Heap) (locs' : List Loc), va_S (fun q => s.heap.size ≤ q) s.heap H' locs' → lwW (l, D, cA, cB, s.heap.size) (l, D, cA, cB, s.heap.size + 86) (k + 1) H' → W p l e room_1 s m #[Value.ref b] below meth c H' locs' 97 5115 Q (F0 m 727 ls [])) : W p l e room_1 s m #[Value.ref b] below meth c H locs 97 5115 Q (F0 m 192 ls []) := by
  obtain ⟨hx, hb, hr, hml, hown, hts, hX, hbl, hlocks, hgv⟩ := id C0
  have hbA : ¬ (fun q : Nat => s.heap.size ≤ q) b := Nat.not_le.mpr hbl
  obtain ⟨hc, hm, X1, X2, I⟩ := hw
  obtain ⟨hc2, hm2, r, M1, M2, I2⟩ := C_fault (wC := (l, D, cA, cB, s.heap.size)) (wM := (l, D, cA, cB, s.heap.size + 86)) (k := k) (by omega) I
  obtain ⟨fs1, e1⟩ := I.obj1
  obtain ⟨fs2, e2⟩ := I.obj2
  refine lv_aload_n hx hb dL_law_192 rfl (lv_at hl 1 rfl) ?_
  refine lwc_call (w := (l, D, cA, cB, s.heap.size)) CC dL_law_193 kL_23 ⟨Nat.le_of_ble_eq_true rfl, Nat.le_of_ble_eq_true rfl⟩ M1 rfl (ci := 9) rfl rfl e1 hl.1 (rest := []) rfl (Nat.le_of_ble_eq_true rfl) X1 hS (Nat.le_refl _) (Nat.le_of_ble_eq_true rfl) (Nat.le_of_ble_eq_true rfl) (fun H1 locs1 Y1 K1 hS => ?_)
  have Y2 : gHd (l, D, cA, cB, s.heap.size + 86) false 11 hm H1 := gHd_kept X2 (fun q h1 h2 h3 => K1 q h1 (fun z => absurd z.2 (Nat.not_lt.mpr h2)))
  refine lv_aload_n hx hb dL_law_196 rfl (lv_at hl 2 rfl) ?_
  refine lwc_call (w := (l, D, cA, cB, s.heap.size + 86)) CM dL_law_197 kL_26 ⟨Nat.le_of_ble_eq_true rfl, Nat.le_of_ble_eq_true rfl⟩ M2 rfl (ci := 10) rfl rfl e2 hl.1 (rest := [.int r]) rfl (Nat.le_of_ble_eq_true rfl) Y2 hS (Nat.le_add_right _ _) (Nat.le_of_ble_eq_true rfl) (Nat.le_of_ble_eq_true rfl) (fun H2 locs2 Z2 K2 hS => ?_)
  have Z1 : gHd (l, D, cA, cB, s.heap.size) false 86 hc2 H2 := gHd_kept Y1 (fun q h1 h2 h3 => K2 q h1 (fun z => absurd h3 (Nat.not_lt.mpr z.1)))
  refine lv_icmp_eq (tgt := 727) hx hb dL_law_200 (by decide) (fun _ => ?_) (fun z => absurd rfl z)
  exact kk H2 locs2 hS ⟨hc2, hm2, Z1, Z2, I2⟩
set_option maxRecDepth 100000 in
theorem lw_c3 {p : Program} {l : Launch} {e : Env} {s : State} {m : MethodId} {below : List Frame} {meth : Method} {c : Code} {Q : State → Prop} {D : va_G} {cA cB : ClassId} {b L : Nat} {xs : Nat → Int32} (hL : L ≤ 2048) {k : Nat} (hk : 4 * k + 4 ≤ L) {H : Heap} {locs : List Loc} {ls : Array Slot} (C0 : lw_At p s m meth c b L xs) (CC : lwF p s m #[Value.ref b] c (l, D, cA, cB, s.heap.size)) (CM : lwF p s m #[Value.ref b] c (l, D, cA, cB, s.heap.size + 86)) (hS : va_S (fun q => s.heap.size ≤ q) s.heap H locs) (hw : lwW (l, D, cA, cB, s.heap.size) (l, D, cA, cB, s.heap.size + 86) k H) (hl : lv_has ls 4 [(0, .ref b), (1, .ref s.heap.size), (2, .ref (s.heap.size + 86)), (3, .int (nI (4 * k)))])
    (kk : ∀ (H' : Heap) (locs' : List Loc), va_S (fun q => s.heap.size ≤ q) s.heap H' locs' → lwW (l, D, cA, cB, s.heap.size) (l, D, cA, cB, s.heap.size + 86) (k + 1) H' → W p l e room_1 s m #[Value.ref b] below meth c H' locs' 97 5115 Q (F0 m 727 ls [])) : W p l e room_1 s m #[Value.ref b] below meth c H locs 97 5115 Q (F0 m 205 ls []) := by
  obtain ⟨hx, hb, hr, hml, hown, hts, hX, hbl, hlocks, hgv⟩ := id C0
  have hbA : ¬ (fun q : Nat => s.heap.size ≤ q) b := Nat.not_le.mpr hbl
  obtain ⟨hc, hm, X1, X2, I⟩ := hw
  obtain ⟨hc2, hm2, r, M1, M2, I2⟩ := C_lay (wC := (l, D, cA, cB, s.heap.size)) (wM := (l, D, cA, cB, s.heap.size + 86)) (k := k) (by omega) I
  obtain ⟨fs1, e1⟩ := I.obj1
  obtain ⟨fs2, e2⟩ := I.obj2
  refine lv_aload_n hx hb dL_law_205 rfl (lv_at hl 1 rfl) ?_
  refine lwc_call (w := (l, D, cA, cB, s.heap.size)) CC dL_law_206 kL_27 ⟨Nat.le_of_ble_eq_true rfl, Nat.le_of_ble_eq_true rfl⟩ M1 rfl (ci := 9) rfl rfl e1 hl.1 (rest := []) rfl (Nat.le_of_ble_eq_true rfl) X1 hS (Nat.le_refl _) (Nat.le_of_ble_eq_true rfl) (Nat.le_of_ble_eq_true rfl) (fun H1 locs1 Y1 K1 hS => ?_)
  have Y2 : gHd (l, D, cA, cB, s.heap.size + 86) false 11 hm H1 := gHd_kept X2 (fun q h1 h2 h3 => K1 q h1 (fun z => absurd z.2 (Nat.not_lt.mpr h2)))
  refine lv_aload_n hx hb dL_law_209 rfl (lv_at hl 2 rfl) ?_
  refine lwc_call (w := (l, D, cA, cB, s.heap.size + 86)) CM dL_law_210 kL_30 ⟨Nat.le_of_ble_eq_true rfl, Nat.le_of_ble_eq_true rfl⟩ M2 rfl (ci := 10) rfl rfl e2 hl.1 (rest := [.int r]) rfl (Nat.le_of_ble_eq_true rfl) Y2 hS (Nat.le_add_right _ _) (Nat.le_of_ble_eq_true rfl) (Nat.le_of_ble_eq_true rfl) (fun H2 locs2 Z2 K2 hS => ?_)
  have Z1 : gHd (l, D, cA, cB, s.heap.size) false 86 hc2 H2 := gHd_kept Y1 (fun q h1 h2 h3 => K2 q h1 (fun z => absurd h3 (Nat.not_lt.mpr z.1)))
  refine lv_icmp_eq (tgt := 727) hx hb dL_law_213 (by decide) (fun _ => ?_) (fun z => absurd rfl z)
  exact kk H2 locs2 hS ⟨hc2, hm2, Z1, Z2, I2⟩
set_option maxRecDepth 100000 in
theorem lw_c4 {p : Program} {l : Launch} {e : Env} {s : State} {m : MethodId} {below : List Frame} {meth : Method} {c : Code} {Q : State → Prop} {D : va_G} {cA cB : ClassId} {b L : Nat} {xs : Nat → Int32} (hL : L ≤ 2048) {k : Nat} (hk : 4 * k + 4 ≤ L) {H : Heap} {locs : List Loc} {ls : Array Slot} (C0 : lw_At p s m meth c b L xs) (CC : lwF p s m #[Value.ref b] c (l, D, cA, cB, s.heap.size)) (CM : lwF p s m #[Value.ref b] c (l, D, cA, cB, s.heap.size + 86)) (hS : va_S (fun q => s.heap.size ≤ q) s.heap H locs) (hw : lwW (l, D, cA, cB, s.heap.size) (l, D, cA, cB, s.heap.size + 86) k H) (hl : lv_has ls 4 [(0, .ref b), (1, .ref s.heap.size), (2, .ref (s.heap.size + 86)), (3, .int (nI (4 * k)))])
    (kk : ∀ (H' : Heap) (locs' : List Loc), va_S (fun q => s.heap.size ≤ q) s.heap H' locs' → lwW (l, D, cA, cB, s.heap.size) (l, D, cA, cB, s.heap.size + 86) (k + 1) H' → W p l e room_1 s m #[Value.ref b] below meth c H' locs' 97 5115 Q (F0 m 727 ls [])) : W p l e room_1 s m #[Value.ref b] below meth c H locs 97 5115 Q (F0 m 218 ls []) := by
  obtain ⟨hx, hb, hr, hml, hown, hts, hX, hbl, hlocks, hgv⟩ := id C0
  have hbA : ¬ (fun q : Nat => s.heap.size ≤ q) b := Nat.not_le.mpr hbl
  obtain ⟨hc, hm, X1, X2, I⟩ := hw
  obtain ⟨hc2, hm2, r, M1, M2, I2⟩ := C_person (wC := (l, D, cA, cB, s.heap.size)) (wM := (l, D, cA, cB, s.heap.size + 86)) (k := k) (by omega) (xs (4 * k + 1)) (xs (4 * k + 2)) I
  obtain ⟨fs1, e1⟩ := I.obj1
  obtain ⟨fs2, e2⟩ := I.obj2
  refine lv_aload_n hx hb dL_law_218 rfl (lv_at hl 1 rfl) ?_
  refine lv_aload_n hx hb dL_law_219 rfl (lv_at hl 0 rfl) ?_
  refine lv_iload_n hx hb dL_law_220 rfl (lv_at hl 3 rfl) ?_
  refine lv_iconst (v := 1) hx hb dL_law_221 (by decide) ?_
  refine lv_iadd hx hb dL_law_222 ?_
  rw [show nI (4 * k) + 1 = nI (4 * k + 1) from nI_add _ 1]
  refine va_sld hx hb hX hbl hbA hS (vp_in_nI (by omega) (by omega)) dL_law_223 ?_
  rw [show xs (nI (4 * k + 1)).toNatClampNeg = xs (4 * k + 1) by rw [nI_clamp (by omega)]]
  refine lv_aload_n hx hb dL_law_224 rfl (lv_at hl 0 rfl) ?_
  refine lv_iload_n hx hb dL_law_225 rfl (lv_at hl 3 rfl) ?_
  refine lv_iconst (v := 2) hx hb dL_law_226 (by decide) ?_
  refine lv_iadd hx hb dL_law_227 ?_
  rw [show nI (4 * k) + 2 = nI (4 * k + 2) from nI_add _ 2]
  refine va_sld hx hb hX hbl hbA hS (vp_in_nI (by omega) (by omega)) dL_law_228 ?_
  rw [show xs (nI (4 * k + 2)).toNatClampNeg = xs (4 * k + 2) by rw [nI_clamp (by omega)]]
  refine lwc_call (w := (l, D, cA, cB, s.heap.size)) CC dL_law_229 kL_31 ⟨Nat.le_of_ble_eq_true rfl, Nat.le_of_ble_eq_true rfl⟩ M1 rfl (ci := 9) rfl rfl e1 hl.1 (rest := []) rfl (Nat.le_of_ble_eq_true rfl) X1 hS (Nat.le_refl _) (Nat.le_of_ble_eq_true rfl) (Nat.le_of_ble_eq_true rfl) (fun H1 locs1 Y1 K1 hS => ?_)
  have Y2 : gHd (l, D, cA, cB, s.heap.size + 86) false 11 hm H1 := gHd_kept X2 (fun q h1 h2 h3 => K1 q h1 (fun z => absurd z.2 (Nat.not_lt.mpr h2)))
  refine lv_aload_n hx hb dL_law_232 rfl (lv_at hl 2 rfl) ?_
  refine lv_aload_n hx hb dL_law_233 rfl (lv_at hl 0 rfl) ?_
  refine lv_iload_n hx hb dL_law_234 rfl (lv_at hl 3 rfl) ?_
  refine lv_iconst (v := 1) hx hb dL_law_235 (by decide) ?_
  refine lv_iadd hx hb dL_law_236 ?_
  rw [show nI (4 * k) + 1 = nI (4 * k + 1) from nI_add _ 1]
  refine va_sld hx hb hX hbl hbA hS (vp_in_nI (by omega) (by omega)) dL_law_237 ?_
  rw [show xs (nI (4 * k + 1)).toNatClampNeg = xs (4 * k + 1) by rw [nI_clamp (by omega)]]
  refine lv_aload_n hx hb dL_law_238 rfl (lv_at hl 0 rfl) ?_
  refine lv_iload_n hx hb dL_law_239 rfl (lv_at hl 3 rfl) ?_
  refine lv_iconst (v := 2) hx hb dL_law_240 (by decide) ?_
  refine lv_iadd hx hb dL_law_241 ?_
  rw [show nI (4 * k) + 2 = nI (4 * k + 2) from nI_add _ 2]
  refine va_sld hx hb hX hbl hbA hS (vp_in_nI (by omega) (by omega)) dL_law_242 ?_
  rw [show xs (nI (4 * k + 2)).toNatClampNeg = xs (4 * k + 2) by rw [nI_clamp (by omega)]]
  refine lwc_call (w := (l, D, cA, cB, s.heap.size + 86)) CM dL_law_243 kL_35 ⟨Nat.le_of_ble_eq_true rfl, Nat.le_of_ble_eq_true rfl⟩ M2 rfl (ci := 10) rfl rfl e2 hl.1 (rest := [.int r]) rfl (Nat.le_of_ble_eq_true rfl) Y2 hS (Nat.le_add_right _ _) (Nat.le_of_ble_eq_true rfl) (Nat.le_of_ble_eq_true rfl) (fun H2 locs2 Z2 K2 hS => ?_)
  have Z1 : gHd (l, D, cA, cB, s.heap.size) false 86 hc2 H2 := gHd_kept Y1 (fun q h1 h2 h3 => K2 q h1 (fun z => absurd h3 (Nat.not_lt.mpr z.1)))
  refine lv_icmp_eq (tgt := 727) hx hb dL_law_246 (by decide) (fun _ => ?_) (fun z => absurd rfl z)
  exact kk H2 locs2 hS ⟨hc2, hm2, Z1, Z2, I2⟩
set_option maxRecDepth 100000 in
theorem lw_c5 {p : Program} {l : Launch} {e : Env} {s : State} {m : MethodId} {below : List Frame} {meth : Method} {c : Code} {Q : State → Prop} {D : va_G} {cA cB : ClassId} {b L : Nat} {xs : Nat → Int32} (hL : L ≤ 2048) {k : Nat} (hk : 4 * k + 4 ≤ L) {H : Heap} {locs : List Loc} {ls : Array Slot} (C0 : lw_At p s m meth c b L xs) (CC : lwF p s m #[Value.ref b] c (l, D, cA, cB, s.heap.size)) (CM : lwF p s m #[Value.ref b] c (l, D, cA, cB, s.heap.size + 86)) (hS : va_S (fun q => s.heap.size ≤ q) s.heap H locs) (hw : lwW (l, D, cA, cB, s.heap.size) (l, D, cA, cB, s.heap.size + 86) k H) (hl : lv_has ls 4 [(0, .ref b), (1, .ref s.heap.size), (2, .ref (s.heap.size + 86)), (3, .int (nI (4 * k)))])
    (kk : ∀ (H' : Heap) (locs' : List Loc), va_S (fun q => s.heap.size ≤ q) s.heap H' locs' → lwW (l, D, cA, cB, s.heap.size) (l, D, cA, cB, s.heap.size + 86) (k + 1) H' → W p l e room_1 s m #[Value.ref b] below meth c H' locs' 97 5115 Q (F0 m 727 ls [])) : W p l e room_1 s m #[Value.ref b] below meth c H locs 97 5115 Q (F0 m 251 ls []) := by
  obtain ⟨hx, hb, hr, hml, hown, hts, hX, hbl, hlocks, hgv⟩ := id C0
  have hbA : ¬ (fun q : Nat => s.heap.size ≤ q) b := Nat.not_le.mpr hbl
  obtain ⟨hc, hm, X1, X2, I⟩ := hw
  obtain ⟨hc2, hm2, r, M1, M2, I2⟩ := C_sum (wC := (l, D, cA, cB, s.heap.size)) (wM := (l, D, cA, cB, s.heap.size + 86)) (k := k) (by omega) (xs (4 * k + 1)) I
  obtain ⟨fs1, e1⟩ := I.obj1
  obtain ⟨fs2, e2⟩ := I.obj2
  refine lv_aload_n hx hb dL_law_251 rfl (lv_at hl 1 rfl) ?_
  refine lv_aload_n hx hb dL_law_252 rfl (lv_at hl 0 rfl) ?_
  refine lv_iload_n hx hb dL_law_253 rfl (lv_at hl 3 rfl) ?_
  refine lv_iconst (v := 1) hx hb dL_law_254 (by decide) ?_
  refine lv_iadd hx hb dL_law_255 ?_
  rw [show nI (4 * k) + 1 = nI (4 * k + 1) from nI_add _ 1]
  refine va_sld hx hb hX hbl hbA hS (vp_in_nI (by omega) (by omega)) dL_law_256 ?_
  rw [show xs (nI (4 * k + 1)).toNatClampNeg = xs (4 * k + 1) by rw [nI_clamp (by omega)]]
  refine lwc_call (w := (l, D, cA, cB, s.heap.size)) CC dL_law_257 kL_36 ⟨Nat.le_of_ble_eq_true rfl, Nat.le_of_ble_eq_true rfl⟩ M1 rfl (ci := 9) rfl rfl e1 hl.1 (rest := []) rfl (Nat.le_of_ble_eq_true rfl) X1 hS (Nat.le_refl _) (Nat.le_of_ble_eq_true rfl) (Nat.le_of_ble_eq_true rfl) (fun H1 locs1 Y1 K1 hS => ?_)
  have Y2 : gHd (l, D, cA, cB, s.heap.size + 86) false 11 hm H1 := gHd_kept X2 (fun q h1 h2 h3 => K1 q h1 (fun z => absurd z.2 (Nat.not_lt.mpr h2)))
  refine lv_aload_n hx hb dL_law_260 rfl (lv_at hl 2 rfl) ?_
  refine lv_aload_n hx hb dL_law_261 rfl (lv_at hl 0 rfl) ?_
  refine lv_iload_n hx hb dL_law_262 rfl (lv_at hl 3 rfl) ?_
  refine lv_iconst (v := 1) hx hb dL_law_263 (by decide) ?_
  refine lv_iadd hx hb dL_law_264 ?_
  rw [show nI (4 * k) + 1 = nI (4 * k + 1) from nI_add _ 1]
  refine va_sld hx hb hX hbl hbA hS (vp_in_nI (by omega) (by omega)) dL_law_265 ?_
  rw [show xs (nI (4 * k + 1)).toNatClampNeg = xs (4 * k + 1) by rw [nI_clamp (by omega)]]
  refine lwc_call (w := (l, D, cA, cB, s.heap.size + 86)) CM dL_law_266 kL_39 ⟨Nat.le_of_ble_eq_true rfl, Nat.le_of_ble_eq_true rfl⟩ M2 rfl (ci := 10) rfl rfl e2 hl.1 (rest := [.int r]) rfl (Nat.le_of_ble_eq_true rfl) Y2 hS (Nat.le_add_right _ _) (Nat.le_of_ble_eq_true rfl) (Nat.le_of_ble_eq_true rfl) (fun H2 locs2 Z2 K2 hS => ?_)
  have Z1 : gHd (l, D, cA, cB, s.heap.size) false 86 hc2 H2 := gHd_kept Y1 (fun q h1 h2 h3 => K2 q h1 (fun z => absurd h3 (Nat.not_lt.mpr z.1)))
  refine lv_icmp_eq (tgt := 727) hx hb dL_law_269 (by decide) (fun _ => ?_) (fun z => absurd rfl z)
  exact kk H2 locs2 hS ⟨hc2, hm2, Z1, Z2, I2⟩
set_option maxRecDepth 100000 in
theorem lw_c6 {p : Program} {l : Launch} {e : Env} {s : State} {m : MethodId} {below : List Frame} {meth : Method} {c : Code} {Q : State → Prop} {D : va_G} {cA cB : ClassId} {b L : Nat} {xs : Nat → Int32} (hL : L ≤ 2048) {k : Nat} (hk : 4 * k + 4 ≤ L) {H : Heap} {locs : List Loc} {ls : Array Slot} (C0 : lw_At p s m meth c b L xs) (CC : lwF p s m #[Value.ref b] c (l, D, cA, cB, s.heap.size)) (CM : lwF p s m #[Value.ref b] c (l, D, cA, cB, s.heap.size + 86)) (hS : va_S (fun q => s.heap.size ≤ q) s.heap H locs) (hw : lwW (l, D, cA, cB, s.heap.size) (l, D, cA, cB, s.heap.size + 86) k H) (hl : lv_has ls 4 [(0, .ref b), (1, .ref s.heap.size), (2, .ref (s.heap.size + 86)), (3, .int (nI (4 * k)))])
    (kk : ∀ (H' : Heap) (locs' : List Loc), va_S (fun q => s.heap.size ≤ q) s.heap H' locs' → lwW (l, D, cA, cB, s.heap.size) (l, D, cA, cB, s.heap.size + 86) (k + 1) H' → W p l e room_1 s m #[Value.ref b] below meth c H' locs' 97 5115 Q (F0 m 727 ls [])) : W p l e room_1 s m #[Value.ref b] below meth c H locs 97 5115 Q (F0 m 274 ls []) := by
  obtain ⟨hx, hb, hr, hml, hown, hts, hX, hbl, hlocks, hgv⟩ := id C0
  have hbA : ¬ (fun q : Nat => s.heap.size ≤ q) b := Nat.not_le.mpr hbl
  obtain ⟨hc, hm, X1, X2, I⟩ := hw
  obtain ⟨hc2, hm2, r, M1, M2, I2⟩ := C_pass (wC := (l, D, cA, cB, s.heap.size)) (wM := (l, D, cA, cB, s.heap.size + 86)) (k := k) (by omega) (xs (4 * k + 1)) I
  obtain ⟨fs1, e1⟩ := I.obj1
  obtain ⟨fs2, e2⟩ := I.obj2
  refine lv_aload_n hx hb dL_law_274 rfl (lv_at hl 1 rfl) ?_
  refine lv_aload_n hx hb dL_law_275 rfl (lv_at hl 0 rfl) ?_
  refine lv_iload_n hx hb dL_law_276 rfl (lv_at hl 3 rfl) ?_
  refine lv_iconst (v := 1) hx hb dL_law_277 (by decide) ?_
  refine lv_iadd hx hb dL_law_278 ?_
  rw [show nI (4 * k) + 1 = nI (4 * k + 1) from nI_add _ 1]
  refine va_sld hx hb hX hbl hbA hS (vp_in_nI (by omega) (by omega)) dL_law_279 ?_
  rw [show xs (nI (4 * k + 1)).toNatClampNeg = xs (4 * k + 1) by rw [nI_clamp (by omega)]]
  refine lwc_call (w := (l, D, cA, cB, s.heap.size)) CC dL_law_280 kL_40 ⟨Nat.le_of_ble_eq_true rfl, Nat.le_of_ble_eq_true rfl⟩ M1 rfl (ci := 9) rfl rfl e1 hl.1 (rest := []) rfl (Nat.le_of_ble_eq_true rfl) X1 hS (Nat.le_refl _) (Nat.le_of_ble_eq_true rfl) (Nat.le_of_ble_eq_true rfl) (fun H1 locs1 Y1 K1 hS => ?_)
  have Y2 : gHd (l, D, cA, cB, s.heap.size + 86) false 11 hm H1 := gHd_kept X2 (fun q h1 h2 h3 => K1 q h1 (fun z => absurd z.2 (Nat.not_lt.mpr h2)))
  refine lv_aload_n hx hb dL_law_283 rfl (lv_at hl 2 rfl) ?_
  refine lv_aload_n hx hb dL_law_284 rfl (lv_at hl 0 rfl) ?_
  refine lv_iload_n hx hb dL_law_285 rfl (lv_at hl 3 rfl) ?_
  refine lv_iconst (v := 1) hx hb dL_law_286 (by decide) ?_
  refine lv_iadd hx hb dL_law_287 ?_
  rw [show nI (4 * k) + 1 = nI (4 * k + 1) from nI_add _ 1]
  refine va_sld hx hb hX hbl hbA hS (vp_in_nI (by omega) (by omega)) dL_law_288 ?_
  rw [show xs (nI (4 * k + 1)).toNatClampNeg = xs (4 * k + 1) by rw [nI_clamp (by omega)]]
  refine lwc_call (w := (l, D, cA, cB, s.heap.size + 86)) CM dL_law_289 kL_43 ⟨Nat.le_of_ble_eq_true rfl, Nat.le_of_ble_eq_true rfl⟩ M2 rfl (ci := 10) rfl rfl e2 hl.1 (rest := [.int r]) rfl (Nat.le_of_ble_eq_true rfl) Y2 hS (Nat.le_add_right _ _) (Nat.le_of_ble_eq_true rfl) (Nat.le_of_ble_eq_true rfl) (fun H2 locs2 Z2 K2 hS => ?_)
  have Z1 : gHd (l, D, cA, cB, s.heap.size) false 86 hc2 H2 := gHd_kept Y1 (fun q h1 h2 h3 => K2 q h1 (fun z => absurd h3 (Nat.not_lt.mpr z.1)))
  refine lv_icmp_eq (tgt := 727) hx hb dL_law_292 (by decide) (fun _ => ?_) (fun z => absurd rfl z)
  exact kk H2 locs2 hS ⟨hc2, hm2, Z1, Z2, I2⟩
set_option maxRecDepth 100000 in
theorem lw_c7 {p : Program} {l : Launch} {e : Env} {s : State} {m : MethodId} {below : List Frame} {meth : Method} {c : Code} {Q : State → Prop} {D : va_G} {cA cB : ClassId} {b L : Nat} {xs : Nat → Int32} (hL : L ≤ 2048) {k : Nat} (hk : 4 * k + 4 ≤ L) {H : Heap} {locs : List Loc} {ls : Array Slot} (C0 : lw_At p s m meth c b L xs) (CC : lwF p s m #[Value.ref b] c (l, D, cA, cB, s.heap.size)) (CM : lwF p s m #[Value.ref b] c (l, D, cA, cB, s.heap.size + 86)) (hS : va_S (fun q => s.heap.size ≤ q) s.heap H locs) (hw : lwW (l, D, cA, cB, s.heap.size) (l, D, cA, cB, s.heap.size + 86) k H) (hl : lv_has ls 4 [(0, .ref b), (1, .ref s.heap.size), (2, .ref (s.heap.size + 86)), (3, .int (nI (4 * k)))])
    (kk : ∀ (H' : Heap) (locs' : List Loc), va_S (fun q => s.heap.size ≤ q) s.heap H' locs' → lwW (l, D, cA, cB, s.heap.size) (l, D, cA, cB, s.heap.size + 86) (k + 1) H' → W p l e room_1 s m #[Value.ref b] below meth c H' locs' 97 5115 Q (F0 m 727 ls [])) : W p l e room_1 s m #[Value.ref b] below meth c H locs 97 5115 Q (F0 m 297 ls []) := by
  obtain ⟨hx, hb, hr, hml, hown, hts, hX, hbl, hlocks, hgv⟩ := id C0
  have hbA : ¬ (fun q : Nat => s.heap.size ≤ q) b := Nat.not_le.mpr hbl
  obtain ⟨hc, hm, X1, X2, I⟩ := hw
  obtain ⟨hc2, hm2, r, M1, M2, I2⟩ := C_board (wC := (l, D, cA, cB, s.heap.size)) (wM := (l, D, cA, cB, s.heap.size + 86)) (k := k) (by omega) (xs (4 * k + 1)) I
  obtain ⟨fs1, e1⟩ := I.obj1
  obtain ⟨fs2, e2⟩ := I.obj2
  refine lv_aload_n hx hb dL_law_297 rfl (lv_at hl 1 rfl) ?_
  refine lv_aload_n hx hb dL_law_298 rfl (lv_at hl 0 rfl) ?_
  refine lv_iload_n hx hb dL_law_299 rfl (lv_at hl 3 rfl) ?_
  refine lv_iconst (v := 1) hx hb dL_law_300 (by decide) ?_
  refine lv_iadd hx hb dL_law_301 ?_
  rw [show nI (4 * k) + 1 = nI (4 * k + 1) from nI_add _ 1]
  refine va_sld hx hb hX hbl hbA hS (vp_in_nI (by omega) (by omega)) dL_law_302 ?_
  rw [show xs (nI (4 * k + 1)).toNatClampNeg = xs (4 * k + 1) by rw [nI_clamp (by omega)]]
  refine lwc_call (w := (l, D, cA, cB, s.heap.size)) CC dL_law_303 kL_44 ⟨Nat.le_of_ble_eq_true rfl, Nat.le_of_ble_eq_true rfl⟩ M1 rfl (ci := 9) rfl rfl e1 hl.1 (rest := []) rfl (Nat.le_of_ble_eq_true rfl) X1 hS (Nat.le_refl _) (Nat.le_of_ble_eq_true rfl) (Nat.le_of_ble_eq_true rfl) (fun H1 locs1 Y1 K1 hS => ?_)
  have Y2 : gHd (l, D, cA, cB, s.heap.size + 86) false 11 hm H1 := gHd_kept X2 (fun q h1 h2 h3 => K1 q h1 (fun z => absurd z.2 (Nat.not_lt.mpr h2)))
  refine lv_aload_n hx hb dL_law_306 rfl (lv_at hl 2 rfl) ?_
  refine lv_aload_n hx hb dL_law_307 rfl (lv_at hl 0 rfl) ?_
  refine lv_iload_n hx hb dL_law_308 rfl (lv_at hl 3 rfl) ?_
  refine lv_iconst (v := 1) hx hb dL_law_309 (by decide) ?_
  refine lv_iadd hx hb dL_law_310 ?_
  rw [show nI (4 * k) + 1 = nI (4 * k + 1) from nI_add _ 1]
  refine va_sld hx hb hX hbl hbA hS (vp_in_nI (by omega) (by omega)) dL_law_311 ?_
  rw [show xs (nI (4 * k + 1)).toNatClampNeg = xs (4 * k + 1) by rw [nI_clamp (by omega)]]
  refine lwc_call (w := (l, D, cA, cB, s.heap.size + 86)) CM dL_law_312 kL_47 ⟨Nat.le_of_ble_eq_true rfl, Nat.le_of_ble_eq_true rfl⟩ M2 rfl (ci := 10) rfl rfl e2 hl.1 (rest := [.int r]) rfl (Nat.le_of_ble_eq_true rfl) Y2 hS (Nat.le_add_right _ _) (Nat.le_of_ble_eq_true rfl) (Nat.le_of_ble_eq_true rfl) (fun H2 locs2 Z2 K2 hS => ?_)
  have Z1 : gHd (l, D, cA, cB, s.heap.size) false 86 hc2 H2 := gHd_kept Y1 (fun q h1 h2 h3 => K2 q h1 (fun z => absurd h3 (Nat.not_lt.mpr z.1)))
  refine lv_icmp_eq (tgt := 727) hx hb dL_law_315 (by decide) (fun _ => ?_) (fun z => absurd rfl z)
  exact kk H2 locs2 hS ⟨hc2, hm2, Z1, Z2, I2⟩
set_option maxRecDepth 100000 in
theorem lw_c8 {p : Program} {l : Launch} {e : Env} {s : State} {m : MethodId} {below : List Frame} {meth : Method} {c : Code} {Q : State → Prop} {D : va_G} {cA cB : ClassId} {b L : Nat} {xs : Nat → Int32} (hL : L ≤ 2048) {k : Nat} (hk : 4 * k + 4 ≤ L) {H : Heap} {locs : List Loc} {ls : Array Slot} (C0 : lw_At p s m meth c b L xs) (CC : lwF p s m #[Value.ref b] c (l, D, cA, cB, s.heap.size)) (CM : lwF p s m #[Value.ref b] c (l, D, cA, cB, s.heap.size + 86)) (hS : va_S (fun q => s.heap.size ≤ q) s.heap H locs) (hw : lwW (l, D, cA, cB, s.heap.size) (l, D, cA, cB, s.heap.size + 86) k H) (hl : lv_has ls 4 [(0, .ref b), (1, .ref s.heap.size), (2, .ref (s.heap.size + 86)), (3, .int (nI (4 * k)))])
    (kk : ∀ (H' : Heap) (locs' : List Loc), va_S (fun q => s.heap.size ≤ q) s.heap H' locs' → lwW (l, D, cA, cB, s.heap.size) (l, D, cA, cB, s.heap.size + 86) (k + 1) H' → W p l e room_1 s m #[Value.ref b] below meth c H' locs' 97 5115 Q (F0 m 727 ls [])) : W p l e room_1 s m #[Value.ref b] below meth c H locs 97 5115 Q (F0 m 320 ls []) := by
  obtain ⟨hx, hb, hr, hml, hown, hts, hX, hbl, hlocks, hgv⟩ := id C0
  have hbA : ¬ (fun q : Nat => s.heap.size ≤ q) b := Nat.not_le.mpr hbl
  obtain ⟨hc, hm, X1, X2, I⟩ := hw
  obtain ⟨hc2, hm2, r, M1, M2, I2⟩ := C_stepOff (wC := (l, D, cA, cB, s.heap.size)) (wM := (l, D, cA, cB, s.heap.size + 86)) (k := k) (by omega) (xs (4 * k + 1)) I
  obtain ⟨fs1, e1⟩ := I.obj1
  obtain ⟨fs2, e2⟩ := I.obj2
  refine lv_aload_n hx hb dL_law_320 rfl (lv_at hl 1 rfl) ?_
  refine lv_aload_n hx hb dL_law_321 rfl (lv_at hl 0 rfl) ?_
  refine lv_iload_n hx hb dL_law_322 rfl (lv_at hl 3 rfl) ?_
  refine lv_iconst (v := 1) hx hb dL_law_323 (by decide) ?_
  refine lv_iadd hx hb dL_law_324 ?_
  rw [show nI (4 * k) + 1 = nI (4 * k + 1) from nI_add _ 1]
  refine va_sld hx hb hX hbl hbA hS (vp_in_nI (by omega) (by omega)) dL_law_325 ?_
  rw [show xs (nI (4 * k + 1)).toNatClampNeg = xs (4 * k + 1) by rw [nI_clamp (by omega)]]
  refine lwc_call (w := (l, D, cA, cB, s.heap.size)) CC dL_law_326 kL_48 ⟨Nat.le_of_ble_eq_true rfl, Nat.le_of_ble_eq_true rfl⟩ M1 rfl (ci := 9) rfl rfl e1 hl.1 (rest := []) rfl (Nat.le_of_ble_eq_true rfl) X1 hS (Nat.le_refl _) (Nat.le_of_ble_eq_true rfl) (Nat.le_of_ble_eq_true rfl) (fun H1 locs1 Y1 K1 hS => ?_)
  have Y2 : gHd (l, D, cA, cB, s.heap.size + 86) false 11 hm H1 := gHd_kept X2 (fun q h1 h2 h3 => K1 q h1 (fun z => absurd z.2 (Nat.not_lt.mpr h2)))
  refine lv_aload_n hx hb dL_law_329 rfl (lv_at hl 2 rfl) ?_
  refine lv_aload_n hx hb dL_law_330 rfl (lv_at hl 0 rfl) ?_
  refine lv_iload_n hx hb dL_law_331 rfl (lv_at hl 3 rfl) ?_
  refine lv_iconst (v := 1) hx hb dL_law_332 (by decide) ?_
  refine lv_iadd hx hb dL_law_333 ?_
  rw [show nI (4 * k) + 1 = nI (4 * k + 1) from nI_add _ 1]
  refine va_sld hx hb hX hbl hbA hS (vp_in_nI (by omega) (by omega)) dL_law_334 ?_
  rw [show xs (nI (4 * k + 1)).toNatClampNeg = xs (4 * k + 1) by rw [nI_clamp (by omega)]]
  refine lwc_call (w := (l, D, cA, cB, s.heap.size + 86)) CM dL_law_335 kL_51 ⟨Nat.le_of_ble_eq_true rfl, Nat.le_of_ble_eq_true rfl⟩ M2 rfl (ci := 10) rfl rfl e2 hl.1 (rest := [.int r]) rfl (Nat.le_of_ble_eq_true rfl) Y2 hS (Nat.le_add_right _ _) (Nat.le_of_ble_eq_true rfl) (Nat.le_of_ble_eq_true rfl) (fun H2 locs2 Z2 K2 hS => ?_)
  have Z1 : gHd (l, D, cA, cB, s.heap.size) false 86 hc2 H2 := gHd_kept Y1 (fun q h1 h2 h3 => K2 q h1 (fun z => absurd h3 (Nat.not_lt.mpr z.1)))
  refine lv_icmp_eq (tgt := 727) hx hb dL_law_338 (by decide) (fun _ => ?_) (fun z => absurd rfl z)
  exact kk H2 locs2 hS ⟨hc2, hm2, Z1, Z2, I2⟩
set_option maxRecDepth 100000 in
theorem lw_c9 {p : Program} {l : Launch} {e : Env} {s : State} {m : MethodId} {below : List Frame} {meth : Method} {c : Code} {Q : State → Prop} {D : va_G} {cA cB : ClassId} {b L : Nat} {xs : Nat → Int32} (hL : L ≤ 2048) {k : Nat} (hk : 4 * k + 4 ≤ L) {H : Heap} {locs : List Loc} {ls : Array Slot} (C0 : lw_At p s m meth c b L xs) (CC : lwF p s m #[Value.ref b] c (l, D, cA, cB, s.heap.size)) (CM : lwF p s m #[Value.ref b] c (l, D, cA, cB, s.heap.size + 86)) (hS : va_S (fun q => s.heap.size ≤ q) s.heap H locs) (hw : lwW (l, D, cA, cB, s.heap.size) (l, D, cA, cB, s.heap.size + 86) k H) (hl : lv_has ls 4 [(0, .ref b), (1, .ref s.heap.size), (2, .ref (s.heap.size + 86)), (3, .int (nI (4 * k)))])
    (kk : ∀ (H' : Heap) (locs' : List Loc), va_S (fun q => s.heap.size ≤ q) s.heap H' locs' → lwW (l, D, cA, cB, s.heap.size) (l, D, cA, cB, s.heap.size + 86) (k + 1) H' → W p l e room_1 s m #[Value.ref b] below meth c H' locs' 97 5115 Q (F0 m 727 ls [])) : W p l e room_1 s m #[Value.ref b] below meth c H locs 97 5115 Q (F0 m 343 ls []) := by
  obtain ⟨hx, hb, hr, hml, hown, hts, hX, hbl, hlocks, hgv⟩ := id C0
  have hbA : ¬ (fun q : Nat => s.heap.size ≤ q) b := Nat.not_le.mpr hbl
  obtain ⟨hc, hm, X1, X2, I⟩ := hw
  obtain ⟨hc2, hm2, r, M1, M2, I2⟩ := C_die (wC := (l, D, cA, cB, s.heap.size)) (wM := (l, D, cA, cB, s.heap.size + 86)) (k := k) (by omega) (xs (4 * k + 1)) I
  obtain ⟨fs1, e1⟩ := I.obj1
  obtain ⟨fs2, e2⟩ := I.obj2
  refine lv_aload_n hx hb dL_law_343 rfl (lv_at hl 1 rfl) ?_
  refine lv_aload_n hx hb dL_law_344 rfl (lv_at hl 0 rfl) ?_
  refine lv_iload_n hx hb dL_law_345 rfl (lv_at hl 3 rfl) ?_
  refine lv_iconst (v := 1) hx hb dL_law_346 (by decide) ?_
  refine lv_iadd hx hb dL_law_347 ?_
  rw [show nI (4 * k) + 1 = nI (4 * k + 1) from nI_add _ 1]
  refine va_sld hx hb hX hbl hbA hS (vp_in_nI (by omega) (by omega)) dL_law_348 ?_
  rw [show xs (nI (4 * k + 1)).toNatClampNeg = xs (4 * k + 1) by rw [nI_clamp (by omega)]]
  refine lwc_call (w := (l, D, cA, cB, s.heap.size)) CC dL_law_349 kL_52 ⟨Nat.le_of_ble_eq_true rfl, Nat.le_of_ble_eq_true rfl⟩ M1 rfl (ci := 9) rfl rfl e1 hl.1 (rest := []) rfl (Nat.le_of_ble_eq_true rfl) X1 hS (Nat.le_refl _) (Nat.le_of_ble_eq_true rfl) (Nat.le_of_ble_eq_true rfl) (fun H1 locs1 Y1 K1 hS => ?_)
  have Y2 : gHd (l, D, cA, cB, s.heap.size + 86) false 11 hm H1 := gHd_kept X2 (fun q h1 h2 h3 => K1 q h1 (fun z => absurd z.2 (Nat.not_lt.mpr h2)))
  refine lv_aload_n hx hb dL_law_352 rfl (lv_at hl 2 rfl) ?_
  refine lv_aload_n hx hb dL_law_353 rfl (lv_at hl 0 rfl) ?_
  refine lv_iload_n hx hb dL_law_354 rfl (lv_at hl 3 rfl) ?_
  refine lv_iconst (v := 1) hx hb dL_law_355 (by decide) ?_
  refine lv_iadd hx hb dL_law_356 ?_
  rw [show nI (4 * k) + 1 = nI (4 * k + 1) from nI_add _ 1]
  refine va_sld hx hb hX hbl hbA hS (vp_in_nI (by omega) (by omega)) dL_law_357 ?_
  rw [show xs (nI (4 * k + 1)).toNatClampNeg = xs (4 * k + 1) by rw [nI_clamp (by omega)]]
  refine lwc_call (w := (l, D, cA, cB, s.heap.size + 86)) CM dL_law_358 kL_55 ⟨Nat.le_of_ble_eq_true rfl, Nat.le_of_ble_eq_true rfl⟩ M2 rfl (ci := 10) rfl rfl e2 hl.1 (rest := [.int r]) rfl (Nat.le_of_ble_eq_true rfl) Y2 hS (Nat.le_add_right _ _) (Nat.le_of_ble_eq_true rfl) (Nat.le_of_ble_eq_true rfl) (fun H2 locs2 Z2 K2 hS => ?_)
  have Z1 : gHd (l, D, cA, cB, s.heap.size) false 86 hc2 H2 := gHd_kept Y1 (fun q h1 h2 h3 => K2 q h1 (fun z => absurd h3 (Nat.not_lt.mpr z.1)))
  refine lv_icmp_eq (tgt := 727) hx hb dL_law_361 (by decide) (fun _ => ?_) (fun z => absurd rfl z)
  exact kk H2 locs2 hS ⟨hc2, hm2, Z1, Z2, I2⟩
set_option maxRecDepth 100000 in
theorem lw_c10 {p : Program} {l : Launch} {e : Env} {s : State} {m : MethodId} {below : List Frame} {meth : Method} {c : Code} {Q : State → Prop} {D : va_G} {cA cB : ClassId} {b L : Nat} {xs : Nat → Int32} (hL : L ≤ 2048) {k : Nat} (hk : 4 * k + 4 ≤ L) {H : Heap} {locs : List Loc} {ls : Array Slot} (C0 : lw_At p s m meth c b L xs) (CC : lwF p s m #[Value.ref b] c (l, D, cA, cB, s.heap.size)) (CM : lwF p s m #[Value.ref b] c (l, D, cA, cB, s.heap.size + 86)) (hS : va_S (fun q => s.heap.size ≤ q) s.heap H locs) (hw : lwW (l, D, cA, cB, s.heap.size) (l, D, cA, cB, s.heap.size + 86) k H) (hl : lv_has ls 4 [(0, .ref b), (1, .ref s.heap.size), (2, .ref (s.heap.size + 86)), (3, .int (nI (4 * k)))])
    (kk : ∀ (H' : Heap) (locs' : List Loc), va_S (fun q => s.heap.size ≤ q) s.heap H' locs' → lwW (l, D, cA, cB, s.heap.size) (l, D, cA, cB, s.heap.size + 86) (k + 1) H' → W p l e room_1 s m #[Value.ref b] below meth c H' locs' 97 5115 Q (F0 m 727 ls [])) : W p l e room_1 s m #[Value.ref b] below meth c H locs 97 5115 Q (F0 m 366 ls []) := by
  obtain ⟨hx, hb, hr, hml, hown, hts, hX, hbl, hlocks, hgv⟩ := id C0
  have hbA : ¬ (fun q : Nat => s.heap.size ≤ q) b := Nat.not_le.mpr hbl
  obtain ⟨hc, hm, X1, X2, I⟩ := hw
  obtain ⟨hc2, hm2, r, M1, M2, I2⟩ := C_sail (wC := (l, D, cA, cB, s.heap.size)) (wM := (l, D, cA, cB, s.heap.size + 86)) (k := k) (by omega) I
  obtain ⟨fs1, e1⟩ := I.obj1
  obtain ⟨fs2, e2⟩ := I.obj2
  refine lv_aload_n hx hb dL_law_366 rfl (lv_at hl 1 rfl) ?_
  refine lwc_call (w := (l, D, cA, cB, s.heap.size)) CC dL_law_367 kL_56 ⟨Nat.le_of_ble_eq_true rfl, Nat.le_of_ble_eq_true rfl⟩ M1 rfl (ci := 9) rfl rfl e1 hl.1 (rest := []) rfl (Nat.le_of_ble_eq_true rfl) X1 hS (Nat.le_refl _) (Nat.le_of_ble_eq_true rfl) (Nat.le_of_ble_eq_true rfl) (fun H1 locs1 Y1 K1 hS => ?_)
  have Y2 : gHd (l, D, cA, cB, s.heap.size + 86) false 11 hm H1 := gHd_kept X2 (fun q h1 h2 h3 => K1 q h1 (fun z => absurd z.2 (Nat.not_lt.mpr h2)))
  refine lv_aload_n hx hb dL_law_370 rfl (lv_at hl 2 rfl) ?_
  refine lwc_call (w := (l, D, cA, cB, s.heap.size + 86)) CM dL_law_371 kL_59 ⟨Nat.le_of_ble_eq_true rfl, Nat.le_of_ble_eq_true rfl⟩ M2 rfl (ci := 10) rfl rfl e2 hl.1 (rest := [.int r]) rfl (Nat.le_of_ble_eq_true rfl) Y2 hS (Nat.le_add_right _ _) (Nat.le_of_ble_eq_true rfl) (Nat.le_of_ble_eq_true rfl) (fun H2 locs2 Z2 K2 hS => ?_)
  have Z1 : gHd (l, D, cA, cB, s.heap.size) false 86 hc2 H2 := gHd_kept Y1 (fun q h1 h2 h3 => K2 q h1 (fun z => absurd h3 (Nat.not_lt.mpr z.1)))
  refine lv_icmp_eq (tgt := 727) hx hb dL_law_374 (by decide) (fun _ => ?_) (fun z => absurd rfl z)
  exact kk H2 locs2 hS ⟨hc2, hm2, Z1, Z2, I2⟩
set_option maxRecDepth 100000 in
theorem lw_c11 {p : Program} {l : Launch} {e : Env} {s : State} {m : MethodId} {below : List Frame} {meth : Method} {c : Code} {Q : State → Prop} {D : va_G} {cA cB : ClassId} {b L : Nat} {xs : Nat → Int32} (hL : L ≤ 2048) {k : Nat} (hk : 4 * k + 4 ≤ L) {H : Heap} {locs : List Loc} {ls : Array Slot} (C0 : lw_At p s m meth c b L xs) (CC : lwF p s m #[Value.ref b] c (l, D, cA, cB, s.heap.size)) (CM : lwF p s m #[Value.ref b] c (l, D, cA, cB, s.heap.size + 86)) (hS : va_S (fun q => s.heap.size ≤ q) s.heap H locs) (hw : lwW (l, D, cA, cB, s.heap.size) (l, D, cA, cB, s.heap.size + 86) k H) (hl : lv_has ls 4 [(0, .ref b), (1, .ref s.heap.size), (2, .ref (s.heap.size + 86)), (3, .int (nI (4 * k)))])
    (kk : ∀ (H' : Heap) (locs' : List Loc), va_S (fun q => s.heap.size ≤ q) s.heap H' locs' → lwW (l, D, cA, cB, s.heap.size) (l, D, cA, cB, s.heap.size + 86) (k + 1) H' → W p l e room_1 s m #[Value.ref b] below meth c H' locs' 97 5115 Q (F0 m 727 ls [])) : W p l e room_1 s m #[Value.ref b] below meth c H locs 97 5115 Q (F0 m 379 ls []) := by
  obtain ⟨hx, hb, hr, hml, hown, hts, hX, hbl, hlocks, hgv⟩ := id C0
  have hbA : ¬ (fun q : Nat => s.heap.size ≤ q) b := Nat.not_le.mpr hbl
  obtain ⟨hc, hm, X1, X2, I⟩ := hw
  obtain ⟨hc2, hm2, r, M1, M2, I2⟩ := C_undo (wC := (l, D, cA, cB, s.heap.size)) (wM := (l, D, cA, cB, s.heap.size + 86)) (k := k) (by omega) I
  obtain ⟨fs1, e1⟩ := I.obj1
  obtain ⟨fs2, e2⟩ := I.obj2
  refine lv_aload_n hx hb dL_law_379 rfl (lv_at hl 1 rfl) ?_
  refine lwc_call (w := (l, D, cA, cB, s.heap.size)) CC dL_law_380 kL_60 ⟨Nat.le_of_ble_eq_true rfl, Nat.le_of_ble_eq_true rfl⟩ M1 rfl (ci := 9) rfl rfl e1 hl.1 (rest := []) rfl (Nat.le_of_ble_eq_true rfl) X1 hS (Nat.le_refl _) (Nat.le_of_ble_eq_true rfl) (Nat.le_of_ble_eq_true rfl) (fun H1 locs1 Y1 K1 hS => ?_)
  have Y2 : gHd (l, D, cA, cB, s.heap.size + 86) false 11 hm H1 := gHd_kept X2 (fun q h1 h2 h3 => K1 q h1 (fun z => absurd z.2 (Nat.not_lt.mpr h2)))
  refine lv_aload_n hx hb dL_law_383 rfl (lv_at hl 2 rfl) ?_
  refine lwc_call (w := (l, D, cA, cB, s.heap.size + 86)) CM dL_law_384 kL_63 ⟨Nat.le_of_ble_eq_true rfl, Nat.le_of_ble_eq_true rfl⟩ M2 rfl (ci := 10) rfl rfl e2 hl.1 (rest := [.int r]) rfl (Nat.le_of_ble_eq_true rfl) Y2 hS (Nat.le_add_right _ _) (Nat.le_of_ble_eq_true rfl) (Nat.le_of_ble_eq_true rfl) (fun H2 locs2 Z2 K2 hS => ?_)
  have Z1 : gHd (l, D, cA, cB, s.heap.size) false 86 hc2 H2 := gHd_kept Y1 (fun q h1 h2 h3 => K2 q h1 (fun z => absurd h3 (Nat.not_lt.mpr z.1)))
  refine lv_icmp_eq (tgt := 727) hx hb dL_law_387 (by decide) (fun _ => ?_) (fun z => absurd rfl z)
  exact kk H2 locs2 hS ⟨hc2, hm2, Z1, Z2, I2⟩
set_option maxRecDepth 100000 in
theorem lw_c12 {p : Program} {l : Launch} {e : Env} {s : State} {m : MethodId} {below : List Frame} {meth : Method} {c : Code} {Q : State → Prop} {D : va_G} {cA cB : ClassId} {b L : Nat} {xs : Nat → Int32} (hL : L ≤ 2048) {k : Nat} (hk : 4 * k + 4 ≤ L) {H : Heap} {locs : List Loc} {ls : Array Slot} (C0 : lw_At p s m meth c b L xs) (CC : lwF p s m #[Value.ref b] c (l, D, cA, cB, s.heap.size)) (CM : lwF p s m #[Value.ref b] c (l, D, cA, cB, s.heap.size + 86)) (hS : va_S (fun q => s.heap.size ≤ q) s.heap H locs) (hw : lwW (l, D, cA, cB, s.heap.size) (l, D, cA, cB, s.heap.size + 86) k H) (hl : lv_has ls 4 [(0, .ref b), (1, .ref s.heap.size), (2, .ref (s.heap.size + 86)), (3, .int (nI (4 * k)))])
    (kk : ∀ (H' : Heap) (locs' : List Loc), va_S (fun q => s.heap.size ≤ q) s.heap H' locs' → lwW (l, D, cA, cB, s.heap.size) (l, D, cA, cB, s.heap.size + 86) (k + 1) H' → W p l e room_1 s m #[Value.ref b] below meth c H' locs' 97 5115 Q (F0 m 727 ls [])) : W p l e room_1 s m #[Value.ref b] below meth c H locs 97 5115 Q (F0 m 392 ls []) := by
  obtain ⟨hx, hb, hr, hml, hown, hts, hX, hbl, hlocks, hgv⟩ := id C0
  have hbA : ¬ (fun q : Nat => s.heap.size ≤ q) b := Nat.not_le.mpr hbl
  obtain ⟨hc, hm, X1, X2, I⟩ := hw
  obtain ⟨hc2, hm2, r, M1, M2, I2⟩ := C_best (wC := (l, D, cA, cB, s.heap.size)) (wM := (l, D, cA, cB, s.heap.size + 86)) (k := k) (by omega) (xs (4 * k + 1)) I
  obtain ⟨fs1, e1⟩ := I.obj1
  obtain ⟨fs2, e2⟩ := I.obj2
  refine lv_aload_n hx hb dL_law_392 rfl (lv_at hl 1 rfl) ?_
  refine lv_aload_n hx hb dL_law_393 rfl (lv_at hl 0 rfl) ?_
  refine lv_iload_n hx hb dL_law_394 rfl (lv_at hl 3 rfl) ?_
  refine lv_iconst (v := 1) hx hb dL_law_395 (by decide) ?_
  refine lv_iadd hx hb dL_law_396 ?_
  rw [show nI (4 * k) + 1 = nI (4 * k + 1) from nI_add _ 1]
  refine va_sld hx hb hX hbl hbA hS (vp_in_nI (by omega) (by omega)) dL_law_397 ?_
  rw [show xs (nI (4 * k + 1)).toNatClampNeg = xs (4 * k + 1) by rw [nI_clamp (by omega)]]
  refine lwc_call (w := (l, D, cA, cB, s.heap.size)) CC dL_law_398 kL_64 ⟨Nat.le_of_ble_eq_true rfl, Nat.le_of_ble_eq_true rfl⟩ M1 rfl (ci := 9) rfl rfl e1 hl.1 (rest := []) rfl (Nat.le_of_ble_eq_true rfl) X1 hS (Nat.le_refl _) (Nat.le_of_ble_eq_true rfl) (Nat.le_of_ble_eq_true rfl) (fun H1 locs1 Y1 K1 hS => ?_)
  have Y2 : gHd (l, D, cA, cB, s.heap.size + 86) false 11 hm H1 := gHd_kept X2 (fun q h1 h2 h3 => K1 q h1 (fun z => absurd z.2 (Nat.not_lt.mpr h2)))
  refine lv_aload_n hx hb dL_law_401 rfl (lv_at hl 2 rfl) ?_
  refine lv_aload_n hx hb dL_law_402 rfl (lv_at hl 0 rfl) ?_
  refine lv_iload_n hx hb dL_law_403 rfl (lv_at hl 3 rfl) ?_
  refine lv_iconst (v := 1) hx hb dL_law_404 (by decide) ?_
  refine lv_iadd hx hb dL_law_405 ?_
  rw [show nI (4 * k) + 1 = nI (4 * k + 1) from nI_add _ 1]
  refine va_sld hx hb hX hbl hbA hS (vp_in_nI (by omega) (by omega)) dL_law_406 ?_
  rw [show xs (nI (4 * k + 1)).toNatClampNeg = xs (4 * k + 1) by rw [nI_clamp (by omega)]]
  refine lwc_call (w := (l, D, cA, cB, s.heap.size + 86)) CM dL_law_407 kL_67 ⟨Nat.le_of_ble_eq_true rfl, Nat.le_of_ble_eq_true rfl⟩ M2 rfl (ci := 10) rfl rfl e2 hl.1 (rest := [.int r]) rfl (Nat.le_of_ble_eq_true rfl) Y2 hS (Nat.le_add_right _ _) (Nat.le_of_ble_eq_true rfl) (Nat.le_of_ble_eq_true rfl) (fun H2 locs2 Z2 K2 hS => ?_)
  have Z1 : gHd (l, D, cA, cB, s.heap.size) false 86 hc2 H2 := gHd_kept Y1 (fun q h1 h2 h3 => K2 q h1 (fun z => absurd h3 (Nat.not_lt.mpr z.1)))
  refine lv_icmp_eq (tgt := 727) hx hb dL_law_410 (by decide) (fun _ => ?_) (fun z => absurd rfl z)
  exact kk H2 locs2 hS ⟨hc2, hm2, Z1, Z2, I2⟩
set_option maxRecDepth 100000 in
theorem lw_c13 {p : Program} {l : Launch} {e : Env} {s : State} {m : MethodId} {below : List Frame} {meth : Method} {c : Code} {Q : State → Prop} {D : va_G} {cA cB : ClassId} {b L : Nat} {xs : Nat → Int32} (hL : L ≤ 2048) {k : Nat} (hk : 4 * k + 4 ≤ L) {H : Heap} {locs : List Loc} {ls : Array Slot} (C0 : lw_At p s m meth c b L xs) (CC : lwF p s m #[Value.ref b] c (l, D, cA, cB, s.heap.size)) (CM : lwF p s m #[Value.ref b] c (l, D, cA, cB, s.heap.size + 86)) (hS : va_S (fun q => s.heap.size ≤ q) s.heap H locs) (hw : lwW (l, D, cA, cB, s.heap.size) (l, D, cA, cB, s.heap.size + 86) k H) (hl : lv_has ls 4 [(0, .ref b), (1, .ref s.heap.size), (2, .ref (s.heap.size + 86)), (3, .int (nI (4 * k)))])
    (kk : ∀ (H' : Heap) (locs' : List Loc), va_S (fun q => s.heap.size ≤ q) s.heap H' locs' → lwW (l, D, cA, cB, s.heap.size) (l, D, cA, cB, s.heap.size + 86) (k + 1) H' → W p l e room_1 s m #[Value.ref b] below meth c H' locs' 97 5115 Q (F0 m 727 ls [])) : W p l e room_1 s m #[Value.ref b] below meth c H locs 97 5115 Q (F0 m 415 ls []) := by
  obtain ⟨hx, hb, hr, hml, hown, hts, hX, hbl, hlocks, hgv⟩ := id C0
  have hbA : ¬ (fun q : Nat => s.heap.size ≤ q) b := Nat.not_le.mpr hbl
  obtain ⟨hc, hm, X1, X2, I⟩ := hw
  obtain ⟨hc2, hm2, r, M1, M2, I2⟩ := C_waits (wC := (l, D, cA, cB, s.heap.size)) (wM := (l, D, cA, cB, s.heap.size + 86)) (k := k) (by omega) I
  obtain ⟨fs1, e1⟩ := I.obj1
  obtain ⟨fs2, e2⟩ := I.obj2
  refine lv_aload_n hx hb dL_law_415 rfl (lv_at hl 1 rfl) ?_
  refine lwc_call (w := (l, D, cA, cB, s.heap.size)) CC dL_law_416 kL_68 ⟨Nat.le_of_ble_eq_true rfl, Nat.le_of_ble_eq_true rfl⟩ M1 rfl (ci := 9) rfl rfl e1 hl.1 (rest := []) rfl (Nat.le_of_ble_eq_true rfl) X1 hS (Nat.le_refl _) (Nat.le_of_ble_eq_true rfl) (Nat.le_of_ble_eq_true rfl) (fun H1 locs1 Y1 K1 hS => ?_)
  have Y2 : gHd (l, D, cA, cB, s.heap.size + 86) false 11 hm H1 := gHd_kept X2 (fun q h1 h2 h3 => K1 q h1 (fun z => absurd z.2 (Nat.not_lt.mpr h2)))
  refine lv_aload_n hx hb dL_law_419 rfl (lv_at hl 2 rfl) ?_
  refine lwc_call (w := (l, D, cA, cB, s.heap.size + 86)) CM dL_law_420 kL_71 ⟨Nat.le_of_ble_eq_true rfl, Nat.le_of_ble_eq_true rfl⟩ M2 rfl (ci := 10) rfl rfl e2 hl.1 (rest := [.int r]) rfl (Nat.le_of_ble_eq_true rfl) Y2 hS (Nat.le_add_right _ _) (Nat.le_of_ble_eq_true rfl) (Nat.le_of_ble_eq_true rfl) (fun H2 locs2 Z2 K2 hS => ?_)
  have Z1 : gHd (l, D, cA, cB, s.heap.size) false 86 hc2 H2 := gHd_kept Y1 (fun q h1 h2 h3 => K2 q h1 (fun z => absurd h3 (Nat.not_lt.mpr z.1)))
  refine lv_icmp_eq (tgt := 727) hx hb dL_law_423 (by decide) (fun _ => ?_) (fun z => absurd rfl z)
  exact kk H2 locs2 hS ⟨hc2, hm2, Z1, Z2, I2⟩
set_option maxRecDepth 100000 in
theorem lw_c14 {p : Program} {l : Launch} {e : Env} {s : State} {m : MethodId} {below : List Frame} {meth : Method} {c : Code} {Q : State → Prop} {D : va_G} {cA cB : ClassId} {b L : Nat} {xs : Nat → Int32} (hL : L ≤ 2048) {k : Nat} (hk : 4 * k + 4 ≤ L) {H : Heap} {locs : List Loc} {ls : Array Slot} (C0 : lw_At p s m meth c b L xs) (CC : lwF p s m #[Value.ref b] c (l, D, cA, cB, s.heap.size)) (CM : lwF p s m #[Value.ref b] c (l, D, cA, cB, s.heap.size + 86)) (hS : va_S (fun q => s.heap.size ≤ q) s.heap H locs) (hw : lwW (l, D, cA, cB, s.heap.size) (l, D, cA, cB, s.heap.size + 86) k H) (hl : lv_has ls 4 [(0, .ref b), (1, .ref s.heap.size), (2, .ref (s.heap.size + 86)), (3, .int (nI (4 * k)))])
    (kk : ∀ (H' : Heap) (locs' : List Loc), va_S (fun q => s.heap.size ≤ q) s.heap H' locs' → lwW (l, D, cA, cB, s.heap.size) (l, D, cA, cB, s.heap.size + 86) (k + 1) H' → W p l e room_1 s m #[Value.ref b] below meth c H' locs' 97 5115 Q (F0 m 727 ls [])) : W p l e room_1 s m #[Value.ref b] below meth c H locs 97 5115 Q (F0 m 428 ls []) := by
  obtain ⟨hx, hb, hr, hml, hown, hts, hX, hbl, hlocks, hgv⟩ := id C0
  have hbA : ¬ (fun q : Nat => s.heap.size ≤ q) b := Nat.not_le.mpr hbl
  obtain ⟨hc, hm, X1, X2, I⟩ := hw
  obtain ⟨hc2, hm2, r, M1, M2, I2⟩ := C_sailings (wC := (l, D, cA, cB, s.heap.size)) (wM := (l, D, cA, cB, s.heap.size + 86)) (k := k) (by omega) (xs (4 * k + 1)) I
  obtain ⟨fs1, e1⟩ := I.obj1
  obtain ⟨fs2, e2⟩ := I.obj2
  refine lv_aload_n hx hb dL_law_428 rfl (lv_at hl 1 rfl) ?_
  refine lv_aload_n hx hb dL_law_429 rfl (lv_at hl 0 rfl) ?_
  refine lv_iload_n hx hb dL_law_430 rfl (lv_at hl 3 rfl) ?_
  refine lv_iconst (v := 1) hx hb dL_law_431 (by decide) ?_
  refine lv_iadd hx hb dL_law_432 ?_
  rw [show nI (4 * k) + 1 = nI (4 * k + 1) from nI_add _ 1]
  refine va_sld hx hb hX hbl hbA hS (vp_in_nI (by omega) (by omega)) dL_law_433 ?_
  rw [show xs (nI (4 * k + 1)).toNatClampNeg = xs (4 * k + 1) by rw [nI_clamp (by omega)]]
  refine lwc_call (w := (l, D, cA, cB, s.heap.size)) CC dL_law_434 kL_72 ⟨Nat.le_of_ble_eq_true rfl, Nat.le_of_ble_eq_true rfl⟩ M1 rfl (ci := 9) rfl rfl e1 hl.1 (rest := []) rfl (Nat.le_of_ble_eq_true rfl) X1 hS (Nat.le_refl _) (Nat.le_of_ble_eq_true rfl) (Nat.le_of_ble_eq_true rfl) (fun H1 locs1 Y1 K1 hS => ?_)
  have Y2 : gHd (l, D, cA, cB, s.heap.size + 86) false 11 hm H1 := gHd_kept X2 (fun q h1 h2 h3 => K1 q h1 (fun z => absurd z.2 (Nat.not_lt.mpr h2)))
  refine lv_aload_n hx hb dL_law_437 rfl (lv_at hl 2 rfl) ?_
  refine lv_aload_n hx hb dL_law_438 rfl (lv_at hl 0 rfl) ?_
  refine lv_iload_n hx hb dL_law_439 rfl (lv_at hl 3 rfl) ?_
  refine lv_iconst (v := 1) hx hb dL_law_440 (by decide) ?_
  refine lv_iadd hx hb dL_law_441 ?_
  rw [show nI (4 * k) + 1 = nI (4 * k + 1) from nI_add _ 1]
  refine va_sld hx hb hX hbl hbA hS (vp_in_nI (by omega) (by omega)) dL_law_442 ?_
  rw [show xs (nI (4 * k + 1)).toNatClampNeg = xs (4 * k + 1) by rw [nI_clamp (by omega)]]
  refine lwc_call (w := (l, D, cA, cB, s.heap.size + 86)) CM dL_law_443 kL_75 ⟨Nat.le_of_ble_eq_true rfl, Nat.le_of_ble_eq_true rfl⟩ M2 rfl (ci := 10) rfl rfl e2 hl.1 (rest := [.int r]) rfl (Nat.le_of_ble_eq_true rfl) Y2 hS (Nat.le_add_right _ _) (Nat.le_of_ble_eq_true rfl) (Nat.le_of_ble_eq_true rfl) (fun H2 locs2 Z2 K2 hS => ?_)
  have Z1 : gHd (l, D, cA, cB, s.heap.size) false 86 hc2 H2 := gHd_kept Y1 (fun q h1 h2 h3 => K2 q h1 (fun z => absurd h3 (Nat.not_lt.mpr z.1)))
  refine lv_icmp_eq (tgt := 727) hx hb dL_law_446 (by decide) (fun _ => ?_) (fun z => absurd rfl z)
  exact kk H2 locs2 hS ⟨hc2, hm2, Z1, Z2, I2⟩
set_option maxRecDepth 100000 in
theorem lw_c15 {p : Program} {l : Launch} {e : Env} {s : State} {m : MethodId} {below : List Frame} {meth : Method} {c : Code} {Q : State → Prop} {D : va_G} {cA cB : ClassId} {b L : Nat} {xs : Nat → Int32} (hL : L ≤ 2048) {k : Nat} (hk : 4 * k + 4 ≤ L) {H : Heap} {locs : List Loc} {ls : Array Slot} (C0 : lw_At p s m meth c b L xs) (CC : lwF p s m #[Value.ref b] c (l, D, cA, cB, s.heap.size)) (CM : lwF p s m #[Value.ref b] c (l, D, cA, cB, s.heap.size + 86)) (hS : va_S (fun q => s.heap.size ≤ q) s.heap H locs) (hw : lwW (l, D, cA, cB, s.heap.size) (l, D, cA, cB, s.heap.size + 86) k H) (hl : lv_has ls 4 [(0, .ref b), (1, .ref s.heap.size), (2, .ref (s.heap.size + 86)), (3, .int (nI (4 * k)))])
    (kk : ∀ (H' : Heap) (locs' : List Loc), va_S (fun q => s.heap.size ≤ q) s.heap H' locs' → lwW (l, D, cA, cB, s.heap.size) (l, D, cA, cB, s.heap.size + 86) (k + 1) H' → W p l e room_1 s m #[Value.ref b] below meth c H' locs' 97 5115 Q (F0 m 727 ls [])) : W p l e room_1 s m #[Value.ref b] below meth c H locs 97 5115 Q (F0 m 451 ls []) := by
  obtain ⟨hx, hb, hr, hml, hown, hts, hX, hbl, hlocks, hgv⟩ := id C0
  have hbA : ¬ (fun q : Nat => s.heap.size ≤ q) b := Nat.not_le.mpr hbl
  obtain ⟨hc, hm, X1, X2, I⟩ := hw
  obtain ⟨hc2, hm2, r, M1, M2, I2⟩ := C_setsFor (wC := (l, D, cA, cB, s.heap.size)) (wM := (l, D, cA, cB, s.heap.size + 86)) (k := k) (by omega) (xs (4 * k + 1)) I
  obtain ⟨fs1, e1⟩ := I.obj1
  obtain ⟨fs2, e2⟩ := I.obj2
  refine lv_aload_n hx hb dL_law_451 rfl (lv_at hl 1 rfl) ?_
  refine lv_aload_n hx hb dL_law_452 rfl (lv_at hl 0 rfl) ?_
  refine lv_iload_n hx hb dL_law_453 rfl (lv_at hl 3 rfl) ?_
  refine lv_iconst (v := 1) hx hb dL_law_454 (by decide) ?_
  refine lv_iadd hx hb dL_law_455 ?_
  rw [show nI (4 * k) + 1 = nI (4 * k + 1) from nI_add _ 1]
  refine va_sld hx hb hX hbl hbA hS (vp_in_nI (by omega) (by omega)) dL_law_456 ?_
  rw [show xs (nI (4 * k + 1)).toNatClampNeg = xs (4 * k + 1) by rw [nI_clamp (by omega)]]
  refine lwc_call (w := (l, D, cA, cB, s.heap.size)) CC dL_law_457 kL_76 ⟨Nat.le_of_ble_eq_true rfl, Nat.le_of_ble_eq_true rfl⟩ M1 rfl (ci := 9) rfl rfl e1 hl.1 (rest := []) rfl (Nat.le_of_ble_eq_true rfl) X1 hS (Nat.le_refl _) (Nat.le_of_ble_eq_true rfl) (Nat.le_of_ble_eq_true rfl) (fun H1 locs1 Y1 K1 hS => ?_)
  have Y2 : gHd (l, D, cA, cB, s.heap.size + 86) false 11 hm H1 := gHd_kept X2 (fun q h1 h2 h3 => K1 q h1 (fun z => absurd z.2 (Nat.not_lt.mpr h2)))
  refine lv_aload_n hx hb dL_law_460 rfl (lv_at hl 2 rfl) ?_
  refine lv_aload_n hx hb dL_law_461 rfl (lv_at hl 0 rfl) ?_
  refine lv_iload_n hx hb dL_law_462 rfl (lv_at hl 3 rfl) ?_
  refine lv_iconst (v := 1) hx hb dL_law_463 (by decide) ?_
  refine lv_iadd hx hb dL_law_464 ?_
  rw [show nI (4 * k) + 1 = nI (4 * k + 1) from nI_add _ 1]
  refine va_sld hx hb hX hbl hbA hS (vp_in_nI (by omega) (by omega)) dL_law_465 ?_
  rw [show xs (nI (4 * k + 1)).toNatClampNeg = xs (4 * k + 1) by rw [nI_clamp (by omega)]]
  refine lwc_call (w := (l, D, cA, cB, s.heap.size + 86)) CM dL_law_466 kL_79 ⟨Nat.le_of_ble_eq_true rfl, Nat.le_of_ble_eq_true rfl⟩ M2 rfl (ci := 10) rfl rfl e2 hl.1 (rest := [.int r]) rfl (Nat.le_of_ble_eq_true rfl) Y2 hS (Nat.le_add_right _ _) (Nat.le_of_ble_eq_true rfl) (Nat.le_of_ble_eq_true rfl) (fun H2 locs2 Z2 K2 hS => ?_)
  have Z1 : gHd (l, D, cA, cB, s.heap.size) false 86 hc2 H2 := gHd_kept Y1 (fun q h1 h2 h3 => K2 q h1 (fun z => absurd h3 (Nat.not_lt.mpr z.1)))
  refine lv_icmp_eq (tgt := 727) hx hb dL_law_469 (by decide) (fun _ => ?_) (fun z => absurd rfl z)
  exact kk H2 locs2 hS ⟨hc2, hm2, Z1, Z2, I2⟩
set_option maxRecDepth 100000 in
theorem lw_c16 {p : Program} {l : Launch} {e : Env} {s : State} {m : MethodId} {below : List Frame} {meth : Method} {c : Code} {Q : State → Prop} {D : va_G} {cA cB : ClassId} {b L : Nat} {xs : Nat → Int32} (hL : L ≤ 2048) {k : Nat} (hk : 4 * k + 4 ≤ L) {H : Heap} {locs : List Loc} {ls : Array Slot} (C0 : lw_At p s m meth c b L xs) (CC : lwF p s m #[Value.ref b] c (l, D, cA, cB, s.heap.size)) (CM : lwF p s m #[Value.ref b] c (l, D, cA, cB, s.heap.size + 86)) (hS : va_S (fun q => s.heap.size ≤ q) s.heap H locs) (hw : lwW (l, D, cA, cB, s.heap.size) (l, D, cA, cB, s.heap.size + 86) k H) (hl : lv_has ls 4 [(0, .ref b), (1, .ref s.heap.size), (2, .ref (s.heap.size + 86)), (3, .int (nI (4 * k)))])
    (kk : ∀ (H' : Heap) (locs' : List Loc), va_S (fun q => s.heap.size ≤ q) s.heap H' locs' → lwW (l, D, cA, cB, s.heap.size) (l, D, cA, cB, s.heap.size + 86) (k + 1) H' → W p l e room_1 s m #[Value.ref b] below meth c H' locs' 97 5115 Q (F0 m 727 ls [])) : W p l e room_1 s m #[Value.ref b] below meth c H locs 97 5115 Q (F0 m 474 ls []) := by
  obtain ⟨hx, hb, hr, hml, hown, hts, hX, hbl, hlocks, hgv⟩ := id C0
  have hbA : ¬ (fun q : Nat => s.heap.size ≤ q) b := Nat.not_le.mpr hbl
  obtain ⟨hc, hm, X1, X2, I⟩ := hw
  obtain ⟨hc2, hm2, r, M1, M2, I2⟩ := C_oddOnes (wC := (l, D, cA, cB, s.heap.size)) (wM := (l, D, cA, cB, s.heap.size + 86)) (k := k) (by omega) I
  obtain ⟨fs1, e1⟩ := I.obj1
  obtain ⟨fs2, e2⟩ := I.obj2
  refine lv_aload_n hx hb dL_law_474 rfl (lv_at hl 1 rfl) ?_
  refine lwc_call (w := (l, D, cA, cB, s.heap.size)) CC dL_law_475 kL_80 ⟨Nat.le_of_ble_eq_true rfl, Nat.le_of_ble_eq_true rfl⟩ M1 rfl (ci := 9) rfl rfl e1 hl.1 (rest := []) rfl (Nat.le_of_ble_eq_true rfl) X1 hS (Nat.le_refl _) (Nat.le_of_ble_eq_true rfl) (Nat.le_of_ble_eq_true rfl) (fun H1 locs1 Y1 K1 hS => ?_)
  have Y2 : gHd (l, D, cA, cB, s.heap.size + 86) false 11 hm H1 := gHd_kept X2 (fun q h1 h2 h3 => K1 q h1 (fun z => absurd z.2 (Nat.not_lt.mpr h2)))
  refine lv_aload_n hx hb dL_law_478 rfl (lv_at hl 2 rfl) ?_
  refine lwc_call (w := (l, D, cA, cB, s.heap.size + 86)) CM dL_law_479 kL_83 ⟨Nat.le_of_ble_eq_true rfl, Nat.le_of_ble_eq_true rfl⟩ M2 rfl (ci := 10) rfl rfl e2 hl.1 (rest := [.int r]) rfl (Nat.le_of_ble_eq_true rfl) Y2 hS (Nat.le_add_right _ _) (Nat.le_of_ble_eq_true rfl) (Nat.le_of_ble_eq_true rfl) (fun H2 locs2 Z2 K2 hS => ?_)
  have Z1 : gHd (l, D, cA, cB, s.heap.size) false 86 hc2 H2 := gHd_kept Y1 (fun q h1 h2 h3 => K2 q h1 (fun z => absurd h3 (Nat.not_lt.mpr z.1)))
  refine lv_icmp_eq (tgt := 727) hx hb dL_law_482 (by decide) (fun _ => ?_) (fun z => absurd rfl z)
  exact kk H2 locs2 hS ⟨hc2, hm2, Z1, Z2, I2⟩
set_option maxRecDepth 100000 in
theorem lw_c17 {p : Program} {l : Launch} {e : Env} {s : State} {m : MethodId} {below : List Frame} {meth : Method} {c : Code} {Q : State → Prop} {D : va_G} {cA cB : ClassId} {b L : Nat} {xs : Nat → Int32} (hL : L ≤ 2048) {k : Nat} (hk : 4 * k + 4 ≤ L) {H : Heap} {locs : List Loc} {ls : Array Slot} (C0 : lw_At p s m meth c b L xs) (CC : lwF p s m #[Value.ref b] c (l, D, cA, cB, s.heap.size)) (CM : lwF p s m #[Value.ref b] c (l, D, cA, cB, s.heap.size + 86)) (hS : va_S (fun q => s.heap.size ≤ q) s.heap H locs) (hw : lwW (l, D, cA, cB, s.heap.size) (l, D, cA, cB, s.heap.size + 86) k H) (hl : lv_has ls 4 [(0, .ref b), (1, .ref s.heap.size), (2, .ref (s.heap.size + 86)), (3, .int (nI (4 * k)))])
    (kk : ∀ (H' : Heap) (locs' : List Loc), va_S (fun q => s.heap.size ≤ q) s.heap H' locs' → lwW (l, D, cA, cB, s.heap.size) (l, D, cA, cB, s.heap.size + 86) (k + 1) H' → W p l e room_1 s m #[Value.ref b] below meth c H' locs' 97 5115 Q (F0 m 727 ls [])) : W p l e room_1 s m #[Value.ref b] below meth c H locs 97 5115 Q (F0 m 487 ls []) := by
  obtain ⟨hx, hb, hr, hml, hown, hts, hX, hbl, hlocks, hgv⟩ := id C0
  have hbA : ¬ (fun q : Nat => s.heap.size ≤ q) b := Nat.not_le.mpr hbl
  obtain ⟨hc, hm, X1, X2, I⟩ := hw
  obtain ⟨hc2, hm2, r, M1, M2, I2⟩ := C_tell (wC := (l, D, cA, cB, s.heap.size)) (wM := (l, D, cA, cB, s.heap.size + 86)) (k := k) (by omega) (xs (4 * k + 1)) (xs (4 * k + 2)) I
  obtain ⟨fs1, e1⟩ := I.obj1
  obtain ⟨fs2, e2⟩ := I.obj2
  refine lv_aload_n hx hb dL_law_487 rfl (lv_at hl 1 rfl) ?_
  refine lv_aload_n hx hb dL_law_488 rfl (lv_at hl 0 rfl) ?_
  refine lv_iload_n hx hb dL_law_489 rfl (lv_at hl 3 rfl) ?_
  refine lv_iconst (v := 1) hx hb dL_law_490 (by decide) ?_
  refine lv_iadd hx hb dL_law_491 ?_
  rw [show nI (4 * k) + 1 = nI (4 * k + 1) from nI_add _ 1]
  refine va_sld hx hb hX hbl hbA hS (vp_in_nI (by omega) (by omega)) dL_law_492 ?_
  rw [show xs (nI (4 * k + 1)).toNatClampNeg = xs (4 * k + 1) by rw [nI_clamp (by omega)]]
  refine lv_aload_n hx hb dL_law_493 rfl (lv_at hl 0 rfl) ?_
  refine lv_iload_n hx hb dL_law_494 rfl (lv_at hl 3 rfl) ?_
  refine lv_iconst (v := 2) hx hb dL_law_495 (by decide) ?_
  refine lv_iadd hx hb dL_law_496 ?_
  rw [show nI (4 * k) + 2 = nI (4 * k + 2) from nI_add _ 2]
  refine va_sld hx hb hX hbl hbA hS (vp_in_nI (by omega) (by omega)) dL_law_497 ?_
  rw [show xs (nI (4 * k + 2)).toNatClampNeg = xs (4 * k + 2) by rw [nI_clamp (by omega)]]
  refine lwc_call (w := (l, D, cA, cB, s.heap.size)) CC dL_law_498 kL_84 ⟨Nat.le_of_ble_eq_true rfl, Nat.le_of_ble_eq_true rfl⟩ M1 rfl (ci := 9) rfl rfl e1 hl.1 (rest := []) rfl (Nat.le_of_ble_eq_true rfl) X1 hS (Nat.le_refl _) (Nat.le_of_ble_eq_true rfl) (Nat.le_of_ble_eq_true rfl) (fun H1 locs1 Y1 K1 hS => ?_)
  have Y2 : gHd (l, D, cA, cB, s.heap.size + 86) false 11 hm H1 := gHd_kept X2 (fun q h1 h2 h3 => K1 q h1 (fun z => absurd z.2 (Nat.not_lt.mpr h2)))
  refine lv_aload_n hx hb dL_law_501 rfl (lv_at hl 2 rfl) ?_
  refine lv_aload_n hx hb dL_law_502 rfl (lv_at hl 0 rfl) ?_
  refine lv_iload_n hx hb dL_law_503 rfl (lv_at hl 3 rfl) ?_
  refine lv_iconst (v := 1) hx hb dL_law_504 (by decide) ?_
  refine lv_iadd hx hb dL_law_505 ?_
  rw [show nI (4 * k) + 1 = nI (4 * k + 1) from nI_add _ 1]
  refine va_sld hx hb hX hbl hbA hS (vp_in_nI (by omega) (by omega)) dL_law_506 ?_
  rw [show xs (nI (4 * k + 1)).toNatClampNeg = xs (4 * k + 1) by rw [nI_clamp (by omega)]]
  refine lv_aload_n hx hb dL_law_507 rfl (lv_at hl 0 rfl) ?_
  refine lv_iload_n hx hb dL_law_508 rfl (lv_at hl 3 rfl) ?_
  refine lv_iconst (v := 2) hx hb dL_law_509 (by decide) ?_
  refine lv_iadd hx hb dL_law_510 ?_
  rw [show nI (4 * k) + 2 = nI (4 * k + 2) from nI_add _ 2]
  refine va_sld hx hb hX hbl hbA hS (vp_in_nI (by omega) (by omega)) dL_law_511 ?_
  rw [show xs (nI (4 * k + 2)).toNatClampNeg = xs (4 * k + 2) by rw [nI_clamp (by omega)]]
  refine lwc_call (w := (l, D, cA, cB, s.heap.size + 86)) CM dL_law_512 kL_87 ⟨Nat.le_of_ble_eq_true rfl, Nat.le_of_ble_eq_true rfl⟩ M2 rfl (ci := 10) rfl rfl e2 hl.1 (rest := [.int r]) rfl (Nat.le_of_ble_eq_true rfl) Y2 hS (Nat.le_add_right _ _) (Nat.le_of_ble_eq_true rfl) (Nat.le_of_ble_eq_true rfl) (fun H2 locs2 Z2 K2 hS => ?_)
  have Z1 : gHd (l, D, cA, cB, s.heap.size) false 86 hc2 H2 := gHd_kept Y1 (fun q h1 h2 h3 => K2 q h1 (fun z => absurd h3 (Nat.not_lt.mpr z.1)))
  refine lv_icmp_eq (tgt := 727) hx hb dL_law_515 (by decide) (fun _ => ?_) (fun z => absurd rfl z)
  exact kk H2 locs2 hS ⟨hc2, hm2, Z1, Z2, I2⟩
set_option maxRecDepth 100000 in
theorem lw_c18 {p : Program} {l : Launch} {e : Env} {s : State} {m : MethodId} {below : List Frame} {meth : Method} {c : Code} {Q : State → Prop} {D : va_G} {cA cB : ClassId} {b L : Nat} {xs : Nat → Int32} (hL : L ≤ 2048) {k : Nat} (hk : 4 * k + 4 ≤ L) {H : Heap} {locs : List Loc} {ls : Array Slot} (C0 : lw_At p s m meth c b L xs) (CC : lwF p s m #[Value.ref b] c (l, D, cA, cB, s.heap.size)) (CM : lwF p s m #[Value.ref b] c (l, D, cA, cB, s.heap.size + 86)) (hS : va_S (fun q => s.heap.size ≤ q) s.heap H locs) (hw : lwW (l, D, cA, cB, s.heap.size) (l, D, cA, cB, s.heap.size + 86) k H) (hl : lv_has ls 4 [(0, .ref b), (1, .ref s.heap.size), (2, .ref (s.heap.size + 86)), (3, .int (nI (4 * k)))])
    (kk : ∀ (H' : Heap) (locs' : List Loc), va_S (fun q => s.heap.size ≤ q) s.heap H' locs' → lwW (l, D, cA, cB, s.heap.size) (l, D, cA, cB, s.heap.size + 86) (k + 1) H' → W p l e room_1 s m #[Value.ref b] below meth c H' locs' 97 5115 Q (F0 m 727 ls [])) : W p l e room_1 s m #[Value.ref b] below meth c H locs 97 5115 Q (F0 m 520 ls []) := by
  obtain ⟨hx, hb, hr, hml, hown, hts, hX, hbl, hlocks, hgv⟩ := id C0
  have hbA : ¬ (fun q : Nat => s.heap.size ≤ q) b := Nat.not_le.mpr hbl
  obtain ⟨hc, hm, X1, X2, I⟩ := hw
  obtain ⟨hc2, hm2, r, M1, M2, I2⟩ := C_forget (wC := (l, D, cA, cB, s.heap.size)) (wM := (l, D, cA, cB, s.heap.size + 86)) (k := k) (by omega) I
  obtain ⟨fs1, e1⟩ := I.obj1
  obtain ⟨fs2, e2⟩ := I.obj2
  refine lv_aload_n hx hb dL_law_520 rfl (lv_at hl 1 rfl) ?_
  refine lwc_call (w := (l, D, cA, cB, s.heap.size)) CC dL_law_521 kL_88 ⟨Nat.le_of_ble_eq_true rfl, Nat.le_of_ble_eq_true rfl⟩ M1 rfl (ci := 9) rfl rfl e1 hl.1 (rest := []) rfl (Nat.le_of_ble_eq_true rfl) X1 hS (Nat.le_refl _) (Nat.le_of_ble_eq_true rfl) (Nat.le_of_ble_eq_true rfl) (fun H1 locs1 Y1 K1 hS => ?_)
  have Y2 : gHd (l, D, cA, cB, s.heap.size + 86) false 11 hm H1 := gHd_kept X2 (fun q h1 h2 h3 => K1 q h1 (fun z => absurd z.2 (Nat.not_lt.mpr h2)))
  refine lv_aload_n hx hb dL_law_524 rfl (lv_at hl 2 rfl) ?_
  refine lwc_call (w := (l, D, cA, cB, s.heap.size + 86)) CM dL_law_525 kL_91 ⟨Nat.le_of_ble_eq_true rfl, Nat.le_of_ble_eq_true rfl⟩ M2 rfl (ci := 10) rfl rfl e2 hl.1 (rest := [.int r]) rfl (Nat.le_of_ble_eq_true rfl) Y2 hS (Nat.le_add_right _ _) (Nat.le_of_ble_eq_true rfl) (Nat.le_of_ble_eq_true rfl) (fun H2 locs2 Z2 K2 hS => ?_)
  have Z1 : gHd (l, D, cA, cB, s.heap.size) false 86 hc2 H2 := gHd_kept Y1 (fun q h1 h2 h3 => K2 q h1 (fun z => absurd h3 (Nat.not_lt.mpr z.1)))
  refine lv_icmp_eq (tgt := 727) hx hb dL_law_528 (by decide) (fun _ => ?_) (fun z => absurd rfl z)
  exact kk H2 locs2 hS ⟨hc2, hm2, Z1, Z2, I2⟩
set_option maxRecDepth 100000 in
theorem lw_c19 {p : Program} {l : Launch} {e : Env} {s : State} {m : MethodId} {below : List Frame} {meth : Method} {c : Code} {Q : State → Prop} {D : va_G} {cA cB : ClassId} {b L : Nat} {xs : Nat → Int32} (hL : L ≤ 2048) {k : Nat} (hk : 4 * k + 4 ≤ L) {H : Heap} {locs : List Loc} {ls : Array Slot} (C0 : lw_At p s m meth c b L xs) (CC : lwF p s m #[Value.ref b] c (l, D, cA, cB, s.heap.size)) (CM : lwF p s m #[Value.ref b] c (l, D, cA, cB, s.heap.size + 86)) (hS : va_S (fun q => s.heap.size ≤ q) s.heap H locs) (hw : lwW (l, D, cA, cB, s.heap.size) (l, D, cA, cB, s.heap.size + 86) k H) (hl : lv_has ls 4 [(0, .ref b), (1, .ref s.heap.size), (2, .ref (s.heap.size + 86)), (3, .int (nI (4 * k)))])
    (kk : ∀ (H' : Heap) (locs' : List Loc), va_S (fun q => s.heap.size ≤ q) s.heap H' locs' → lwW (l, D, cA, cB, s.heap.size) (l, D, cA, cB, s.heap.size + 86) (k + 1) H' → W p l e room_1 s m #[Value.ref b] below meth c H' locs' 97 5115 Q (F0 m 727 ls [])) : W p l e room_1 s m #[Value.ref b] below meth c H locs 97 5115 Q (F0 m 533 ls []) := by
  obtain ⟨hx, hb, hr, hml, hown, hts, hX, hbl, hlocks, hgv⟩ := id C0
  have hbA : ¬ (fun q : Nat => s.heap.size ≤ q) b := Nat.not_le.mpr hbl
  obtain ⟨hc, hm, X1, X2, I⟩ := hw
  obtain ⟨hc2, hm2, r, M1, M2, I2⟩ := C_liar (wC := (l, D, cA, cB, s.heap.size)) (wM := (l, D, cA, cB, s.heap.size + 86)) (k := k) (by omega) I
  obtain ⟨fs1, e1⟩ := I.obj1
  obtain ⟨fs2, e2⟩ := I.obj2
  refine lv_aload_n hx hb dL_law_533 rfl (lv_at hl 1 rfl) ?_
  refine lwc_call (w := (l, D, cA, cB, s.heap.size)) CC dL_law_534 kL_92 ⟨Nat.le_of_ble_eq_true rfl, Nat.le_of_ble_eq_true rfl⟩ M1 rfl (ci := 9) rfl rfl e1 hl.1 (rest := []) rfl (Nat.le_of_ble_eq_true rfl) X1 hS (Nat.le_refl _) (Nat.le_of_ble_eq_true rfl) (Nat.le_of_ble_eq_true rfl) (fun H1 locs1 Y1 K1 hS => ?_)
  have Y2 : gHd (l, D, cA, cB, s.heap.size + 86) false 11 hm H1 := gHd_kept X2 (fun q h1 h2 h3 => K1 q h1 (fun z => absurd z.2 (Nat.not_lt.mpr h2)))
  refine lv_aload_n hx hb dL_law_537 rfl (lv_at hl 2 rfl) ?_
  refine lwc_call (w := (l, D, cA, cB, s.heap.size + 86)) CM dL_law_538 kL_95 ⟨Nat.le_of_ble_eq_true rfl, Nat.le_of_ble_eq_true rfl⟩ M2 rfl (ci := 10) rfl rfl e2 hl.1 (rest := [.int r]) rfl (Nat.le_of_ble_eq_true rfl) Y2 hS (Nat.le_add_right _ _) (Nat.le_of_ble_eq_true rfl) (Nat.le_of_ble_eq_true rfl) (fun H2 locs2 Z2 K2 hS => ?_)
  have Z1 : gHd (l, D, cA, cB, s.heap.size) false 86 hc2 H2 := gHd_kept Y1 (fun q h1 h2 h3 => K2 q h1 (fun z => absurd h3 (Nat.not_lt.mpr z.1)))
  refine lv_icmp_eq (tgt := 727) hx hb dL_law_541 (by decide) (fun _ => ?_) (fun z => absurd rfl z)
  exact kk H2 locs2 hS ⟨hc2, hm2, Z1, Z2, I2⟩
set_option maxRecDepth 100000 in
theorem lw_c20 {p : Program} {l : Launch} {e : Env} {s : State} {m : MethodId} {below : List Frame} {meth : Method} {c : Code} {Q : State → Prop} {D : va_G} {cA cB : ClassId} {b L : Nat} {xs : Nat → Int32} (hL : L ≤ 2048) {k : Nat} (hk : 4 * k + 4 ≤ L) {H : Heap} {locs : List Loc} {ls : Array Slot} (C0 : lw_At p s m meth c b L xs) (CC : lwF p s m #[Value.ref b] c (l, D, cA, cB, s.heap.size)) (CM : lwF p s m #[Value.ref b] c (l, D, cA, cB, s.heap.size + 86)) (hS : va_S (fun q => s.heap.size ≤ q) s.heap H locs) (hw : lwW (l, D, cA, cB, s.heap.size) (l, D, cA, cB, s.heap.size + 86) k H) (hl : lv_has ls 4 [(0, .ref b), (1, .ref s.heap.size), (2, .ref (s.heap.size + 86)), (3, .int (nI (4 * k)))])
    (kk : ∀ (H' : Heap) (locs' : List Loc), va_S (fun q => s.heap.size ≤ q) s.heap H' locs' → lwW (l, D, cA, cB, s.heap.size) (l, D, cA, cB, s.heap.size + 86) (k + 1) H' → W p l e room_1 s m #[Value.ref b] below meth c H' locs' 97 5115 Q (F0 m 727 ls [])) : W p l e room_1 s m #[Value.ref b] below meth c H locs 97 5115 Q (F0 m 546 ls []) := by
  obtain ⟨hx, hb, hr, hml, hown, hts, hX, hbl, hlocks, hgv⟩ := id C0
  have hbA : ¬ (fun q : Nat => s.heap.size ≤ q) b := Nat.not_le.mpr hbl
  obtain ⟨hc, hm, X1, X2, I⟩ := hw
  obtain ⟨hc2, hm2, r, M1, M2, I2⟩ := C_age (wC := (l, D, cA, cB, s.heap.size)) (wM := (l, D, cA, cB, s.heap.size + 86)) (k := k) (by omega) (xs (4 * k + 1)) (xs (4 * k + 2)) I
  obtain ⟨fs1, e1⟩ := I.obj1
  obtain ⟨fs2, e2⟩ := I.obj2
  refine lv_aload_n hx hb dL_law_546 rfl (lv_at hl 1 rfl) ?_
  refine lv_aload_n hx hb dL_law_547 rfl (lv_at hl 0 rfl) ?_
  refine lv_iload_n hx hb dL_law_548 rfl (lv_at hl 3 rfl) ?_
  refine lv_iconst (v := 1) hx hb dL_law_549 (by decide) ?_
  refine lv_iadd hx hb dL_law_550 ?_
  rw [show nI (4 * k) + 1 = nI (4 * k + 1) from nI_add _ 1]
  refine va_sld hx hb hX hbl hbA hS (vp_in_nI (by omega) (by omega)) dL_law_551 ?_
  rw [show xs (nI (4 * k + 1)).toNatClampNeg = xs (4 * k + 1) by rw [nI_clamp (by omega)]]
  refine lv_aload_n hx hb dL_law_552 rfl (lv_at hl 0 rfl) ?_
  refine lv_iload_n hx hb dL_law_553 rfl (lv_at hl 3 rfl) ?_
  refine lv_iconst (v := 2) hx hb dL_law_554 (by decide) ?_
  refine lv_iadd hx hb dL_law_555 ?_
  rw [show nI (4 * k) + 2 = nI (4 * k + 2) from nI_add _ 2]
  refine va_sld hx hb hX hbl hbA hS (vp_in_nI (by omega) (by omega)) dL_law_556 ?_
  rw [show xs (nI (4 * k + 2)).toNatClampNeg = xs (4 * k + 2) by rw [nI_clamp (by omega)]]
  refine lwc_call (w := (l, D, cA, cB, s.heap.size)) CC dL_law_557 kL_96 ⟨Nat.le_of_ble_eq_true rfl, Nat.le_of_ble_eq_true rfl⟩ M1 rfl (ci := 9) rfl rfl e1 hl.1 (rest := []) rfl (Nat.le_of_ble_eq_true rfl) X1 hS (Nat.le_refl _) (Nat.le_of_ble_eq_true rfl) (Nat.le_of_ble_eq_true rfl) (fun H1 locs1 Y1 K1 hS => ?_)
  have Y2 : gHd (l, D, cA, cB, s.heap.size + 86) false 11 hm H1 := gHd_kept X2 (fun q h1 h2 h3 => K1 q h1 (fun z => absurd z.2 (Nat.not_lt.mpr h2)))
  refine lv_aload_n hx hb dL_law_560 rfl (lv_at hl 2 rfl) ?_
  refine lv_aload_n hx hb dL_law_561 rfl (lv_at hl 0 rfl) ?_
  refine lv_iload_n hx hb dL_law_562 rfl (lv_at hl 3 rfl) ?_
  refine lv_iconst (v := 1) hx hb dL_law_563 (by decide) ?_
  refine lv_iadd hx hb dL_law_564 ?_
  rw [show nI (4 * k) + 1 = nI (4 * k + 1) from nI_add _ 1]
  refine va_sld hx hb hX hbl hbA hS (vp_in_nI (by omega) (by omega)) dL_law_565 ?_
  rw [show xs (nI (4 * k + 1)).toNatClampNeg = xs (4 * k + 1) by rw [nI_clamp (by omega)]]
  refine lv_aload_n hx hb dL_law_566 rfl (lv_at hl 0 rfl) ?_
  refine lv_iload_n hx hb dL_law_567 rfl (lv_at hl 3 rfl) ?_
  refine lv_iconst (v := 2) hx hb dL_law_568 (by decide) ?_
  refine lv_iadd hx hb dL_law_569 ?_
  rw [show nI (4 * k) + 2 = nI (4 * k + 2) from nI_add _ 2]
  refine va_sld hx hb hX hbl hbA hS (vp_in_nI (by omega) (by omega)) dL_law_570 ?_
  rw [show xs (nI (4 * k + 2)).toNatClampNeg = xs (4 * k + 2) by rw [nI_clamp (by omega)]]
  refine lwc_call (w := (l, D, cA, cB, s.heap.size + 86)) CM dL_law_571 kL_99 ⟨Nat.le_of_ble_eq_true rfl, Nat.le_of_ble_eq_true rfl⟩ M2 rfl (ci := 10) rfl rfl e2 hl.1 (rest := [.int r]) rfl (Nat.le_of_ble_eq_true rfl) Y2 hS (Nat.le_add_right _ _) (Nat.le_of_ble_eq_true rfl) (Nat.le_of_ble_eq_true rfl) (fun H2 locs2 Z2 K2 hS => ?_)
  have Z1 : gHd (l, D, cA, cB, s.heap.size) false 86 hc2 H2 := gHd_kept Y1 (fun q h1 h2 h3 => K2 q h1 (fun z => absurd h3 (Nat.not_lt.mpr z.1)))
  refine lv_icmp_eq (tgt := 727) hx hb dL_law_574 (by decide) (fun _ => ?_) (fun z => absurd rfl z)
  exact kk H2 locs2 hS ⟨hc2, hm2, Z1, Z2, I2⟩
set_option maxRecDepth 100000 in
theorem lw_c21 {p : Program} {l : Launch} {e : Env} {s : State} {m : MethodId} {below : List Frame} {meth : Method} {c : Code} {Q : State → Prop} {D : va_G} {cA cB : ClassId} {b L : Nat} {xs : Nat → Int32} (hL : L ≤ 2048) {k : Nat} (hk : 4 * k + 4 ≤ L) {H : Heap} {locs : List Loc} {ls : Array Slot} (C0 : lw_At p s m meth c b L xs) (CC : lwF p s m #[Value.ref b] c (l, D, cA, cB, s.heap.size)) (CM : lwF p s m #[Value.ref b] c (l, D, cA, cB, s.heap.size + 86)) (hS : va_S (fun q => s.heap.size ≤ q) s.heap H locs) (hw : lwW (l, D, cA, cB, s.heap.size) (l, D, cA, cB, s.heap.size + 86) k H) (hl : lv_has ls 4 [(0, .ref b), (1, .ref s.heap.size), (2, .ref (s.heap.size + 86)), (3, .int (nI (4 * k)))])
    (kk : ∀ (H' : Heap) (locs' : List Loc), va_S (fun q => s.heap.size ≤ q) s.heap H' locs' → lwW (l, D, cA, cB, s.heap.size) (l, D, cA, cB, s.heap.size + 86) (k + 1) H' → W p l e room_1 s m #[Value.ref b] below meth c H' locs' 97 5115 Q (F0 m 727 ls [])) : W p l e room_1 s m #[Value.ref b] below meth c H locs 97 5115 Q (F0 m 579 ls []) := by
  obtain ⟨hx, hb, hr, hml, hown, hts, hX, hbl, hlocks, hgv⟩ := id C0
  have hbA : ¬ (fun q : Nat => s.heap.size ≤ q) b := Nat.not_le.mpr hbl
  obtain ⟨hc, hm, X1, X2, I⟩ := hw
  obtain ⟨hc2, hm2, r, M1, M2, I2⟩ := C_sums (wC := (l, D, cA, cB, s.heap.size)) (wM := (l, D, cA, cB, s.heap.size + 86)) (k := k) (by omega) (xs (4 * k + 1)) I
  obtain ⟨fs1, e1⟩ := I.obj1
  obtain ⟨fs2, e2⟩ := I.obj2
  refine lv_aload_n hx hb dL_law_579 rfl (lv_at hl 1 rfl) ?_
  refine lv_aload_n hx hb dL_law_580 rfl (lv_at hl 0 rfl) ?_
  refine lv_iload_n hx hb dL_law_581 rfl (lv_at hl 3 rfl) ?_
  refine lv_iconst (v := 1) hx hb dL_law_582 (by decide) ?_
  refine lv_iadd hx hb dL_law_583 ?_
  rw [show nI (4 * k) + 1 = nI (4 * k + 1) from nI_add _ 1]
  refine va_sld hx hb hX hbl hbA hS (vp_in_nI (by omega) (by omega)) dL_law_584 ?_
  rw [show xs (nI (4 * k + 1)).toNatClampNeg = xs (4 * k + 1) by rw [nI_clamp (by omega)]]
  refine lwc_call (w := (l, D, cA, cB, s.heap.size)) CC dL_law_585 kL_100 ⟨Nat.le_of_ble_eq_true rfl, Nat.le_of_ble_eq_true rfl⟩ M1 rfl (ci := 9) rfl rfl e1 hl.1 (rest := []) rfl (Nat.le_of_ble_eq_true rfl) X1 hS (Nat.le_refl _) (Nat.le_of_ble_eq_true rfl) (Nat.le_of_ble_eq_true rfl) (fun H1 locs1 Y1 K1 hS => ?_)
  have Y2 : gHd (l, D, cA, cB, s.heap.size + 86) false 11 hm H1 := gHd_kept X2 (fun q h1 h2 h3 => K1 q h1 (fun z => absurd z.2 (Nat.not_lt.mpr h2)))
  refine lv_aload_n hx hb dL_law_588 rfl (lv_at hl 2 rfl) ?_
  refine lv_aload_n hx hb dL_law_589 rfl (lv_at hl 0 rfl) ?_
  refine lv_iload_n hx hb dL_law_590 rfl (lv_at hl 3 rfl) ?_
  refine lv_iconst (v := 1) hx hb dL_law_591 (by decide) ?_
  refine lv_iadd hx hb dL_law_592 ?_
  rw [show nI (4 * k) + 1 = nI (4 * k + 1) from nI_add _ 1]
  refine va_sld hx hb hX hbl hbA hS (vp_in_nI (by omega) (by omega)) dL_law_593 ?_
  rw [show xs (nI (4 * k + 1)).toNatClampNeg = xs (4 * k + 1) by rw [nI_clamp (by omega)]]
  refine lwc_call (w := (l, D, cA, cB, s.heap.size + 86)) CM dL_law_594 kL_103 ⟨Nat.le_of_ble_eq_true rfl, Nat.le_of_ble_eq_true rfl⟩ M2 rfl (ci := 10) rfl rfl e2 hl.1 (rest := [.int r]) rfl (Nat.le_of_ble_eq_true rfl) Y2 hS (Nat.le_add_right _ _) (Nat.le_of_ble_eq_true rfl) (Nat.le_of_ble_eq_true rfl) (fun H2 locs2 Z2 K2 hS => ?_)
  have Z1 : gHd (l, D, cA, cB, s.heap.size) false 86 hc2 H2 := gHd_kept Y1 (fun q h1 h2 h3 => K2 q h1 (fun z => absurd h3 (Nat.not_lt.mpr z.1)))
  refine lv_icmp_eq (tgt := 727) hx hb dL_law_597 (by decide) (fun _ => ?_) (fun z => absurd rfl z)
  exact kk H2 locs2 hS ⟨hc2, hm2, Z1, Z2, I2⟩
set_option maxRecDepth 100000 in
theorem lw_c22 {p : Program} {l : Launch} {e : Env} {s : State} {m : MethodId} {below : List Frame} {meth : Method} {c : Code} {Q : State → Prop} {D : va_G} {cA cB : ClassId} {b L : Nat} {xs : Nat → Int32} (hL : L ≤ 2048) {k : Nat} (hk : 4 * k + 4 ≤ L) {H : Heap} {locs : List Loc} {ls : Array Slot} (C0 : lw_At p s m meth c b L xs) (CC : lwF p s m #[Value.ref b] c (l, D, cA, cB, s.heap.size)) (CM : lwF p s m #[Value.ref b] c (l, D, cA, cB, s.heap.size + 86)) (hS : va_S (fun q => s.heap.size ≤ q) s.heap H locs) (hw : lwW (l, D, cA, cB, s.heap.size) (l, D, cA, cB, s.heap.size + 86) k H) (hl : lv_has ls 4 [(0, .ref b), (1, .ref s.heap.size), (2, .ref (s.heap.size + 86)), (3, .int (nI (4 * k)))])
    (kk : ∀ (H' : Heap) (locs' : List Loc), va_S (fun q => s.heap.size ≤ q) s.heap H' locs' → lwW (l, D, cA, cB, s.heap.size) (l, D, cA, cB, s.heap.size + 86) (k + 1) H' → W p l e room_1 s m #[Value.ref b] below meth c H' locs' 97 5115 Q (F0 m 727 ls [])) : W p l e room_1 s m #[Value.ref b] below meth c H locs 97 5115 Q (F0 m 602 ls []) := by
  obtain ⟨hx, hb, hr, hml, hown, hts, hX, hbl, hlocks, hgv⟩ := id C0
  have hbA : ¬ (fun q : Nat => s.heap.size ≤ q) b := Nat.not_le.mpr hbl
  obtain ⟨hc, hm, X1, X2, I⟩ := hw
  obtain ⟨hc2, hm2, r, M1, M2, I2⟩ := C_stays (wC := (l, D, cA, cB, s.heap.size)) (wM := (l, D, cA, cB, s.heap.size + 86)) (k := k) (by omega) (xs (4 * k + 1)) (xs (4 * k + 2)) I
  obtain ⟨fs1, e1⟩ := I.obj1
  obtain ⟨fs2, e2⟩ := I.obj2
  refine lv_aload_n hx hb dL_law_602 rfl (lv_at hl 1 rfl) ?_
  refine lv_aload_n hx hb dL_law_603 rfl (lv_at hl 0 rfl) ?_
  refine lv_iload_n hx hb dL_law_604 rfl (lv_at hl 3 rfl) ?_
  refine lv_iconst (v := 1) hx hb dL_law_605 (by decide) ?_
  refine lv_iadd hx hb dL_law_606 ?_
  rw [show nI (4 * k) + 1 = nI (4 * k + 1) from nI_add _ 1]
  refine va_sld hx hb hX hbl hbA hS (vp_in_nI (by omega) (by omega)) dL_law_607 ?_
  rw [show xs (nI (4 * k + 1)).toNatClampNeg = xs (4 * k + 1) by rw [nI_clamp (by omega)]]
  refine lv_aload_n hx hb dL_law_608 rfl (lv_at hl 0 rfl) ?_
  refine lv_iload_n hx hb dL_law_609 rfl (lv_at hl 3 rfl) ?_
  refine lv_iconst (v := 2) hx hb dL_law_610 (by decide) ?_
  refine lv_iadd hx hb dL_law_611 ?_
  rw [show nI (4 * k) + 2 = nI (4 * k + 2) from nI_add _ 2]
  refine va_sld hx hb hX hbl hbA hS (vp_in_nI (by omega) (by omega)) dL_law_612 ?_
  rw [show xs (nI (4 * k + 2)).toNatClampNeg = xs (4 * k + 2) by rw [nI_clamp (by omega)]]
  refine lwc_call (w := (l, D, cA, cB, s.heap.size)) CC dL_law_613 kL_104 ⟨Nat.le_of_ble_eq_true rfl, Nat.le_of_ble_eq_true rfl⟩ M1 rfl (ci := 9) rfl rfl e1 hl.1 (rest := []) rfl (Nat.le_of_ble_eq_true rfl) X1 hS (Nat.le_refl _) (Nat.le_of_ble_eq_true rfl) (Nat.le_of_ble_eq_true rfl) (fun H1 locs1 Y1 K1 hS => ?_)
  have Y2 : gHd (l, D, cA, cB, s.heap.size + 86) false 11 hm H1 := gHd_kept X2 (fun q h1 h2 h3 => K1 q h1 (fun z => absurd z.2 (Nat.not_lt.mpr h2)))
  refine lv_aload_n hx hb dL_law_616 rfl (lv_at hl 2 rfl) ?_
  refine lv_aload_n hx hb dL_law_617 rfl (lv_at hl 0 rfl) ?_
  refine lv_iload_n hx hb dL_law_618 rfl (lv_at hl 3 rfl) ?_
  refine lv_iconst (v := 1) hx hb dL_law_619 (by decide) ?_
  refine lv_iadd hx hb dL_law_620 ?_
  rw [show nI (4 * k) + 1 = nI (4 * k + 1) from nI_add _ 1]
  refine va_sld hx hb hX hbl hbA hS (vp_in_nI (by omega) (by omega)) dL_law_621 ?_
  rw [show xs (nI (4 * k + 1)).toNatClampNeg = xs (4 * k + 1) by rw [nI_clamp (by omega)]]
  refine lv_aload_n hx hb dL_law_622 rfl (lv_at hl 0 rfl) ?_
  refine lv_iload_n hx hb dL_law_623 rfl (lv_at hl 3 rfl) ?_
  refine lv_iconst (v := 2) hx hb dL_law_624 (by decide) ?_
  refine lv_iadd hx hb dL_law_625 ?_
  rw [show nI (4 * k) + 2 = nI (4 * k + 2) from nI_add _ 2]
  refine va_sld hx hb hX hbl hbA hS (vp_in_nI (by omega) (by omega)) dL_law_626 ?_
  rw [show xs (nI (4 * k + 2)).toNatClampNeg = xs (4 * k + 2) by rw [nI_clamp (by omega)]]
  refine lwc_call (w := (l, D, cA, cB, s.heap.size + 86)) CM dL_law_627 kL_107 ⟨Nat.le_of_ble_eq_true rfl, Nat.le_of_ble_eq_true rfl⟩ M2 rfl (ci := 10) rfl rfl e2 hl.1 (rest := [.int r]) rfl (Nat.le_of_ble_eq_true rfl) Y2 hS (Nat.le_add_right _ _) (Nat.le_of_ble_eq_true rfl) (Nat.le_of_ble_eq_true rfl) (fun H2 locs2 Z2 K2 hS => ?_)
  have Z1 : gHd (l, D, cA, cB, s.heap.size) false 86 hc2 H2 := gHd_kept Y1 (fun q h1 h2 h3 => K2 q h1 (fun z => absurd h3 (Nat.not_lt.mpr z.1)))
  refine lv_icmp_eq (tgt := 727) hx hb dL_law_630 (by decide) (fun _ => ?_) (fun z => absurd rfl z)
  exact kk H2 locs2 hS ⟨hc2, hm2, Z1, Z2, I2⟩
set_option maxRecDepth 100000 in
theorem lw_c23 {p : Program} {l : Launch} {e : Env} {s : State} {m : MethodId} {below : List Frame} {meth : Method} {c : Code} {Q : State → Prop} {D : va_G} {cA cB : ClassId} {b L : Nat} {xs : Nat → Int32} (hL : L ≤ 2048) {k : Nat} (hk : 4 * k + 4 ≤ L) {H : Heap} {locs : List Loc} {ls : Array Slot} (C0 : lw_At p s m meth c b L xs) (CC : lwF p s m #[Value.ref b] c (l, D, cA, cB, s.heap.size)) (CM : lwF p s m #[Value.ref b] c (l, D, cA, cB, s.heap.size + 86)) (hS : va_S (fun q => s.heap.size ≤ q) s.heap H locs) (hw : lwW (l, D, cA, cB, s.heap.size) (l, D, cA, cB, s.heap.size + 86) k H) (hl : lv_has ls 4 [(0, .ref b), (1, .ref s.heap.size), (2, .ref (s.heap.size + 86)), (3, .int (nI (4 * k)))])
    (kk : ∀ (H' : Heap) (locs' : List Loc), va_S (fun q => s.heap.size ≤ q) s.heap H' locs' → lwW (l, D, cA, cB, s.heap.size) (l, D, cA, cB, s.heap.size + 86) (k + 1) H' → W p l e room_1 s m #[Value.ref b] below meth c H' locs' 97 5115 Q (F0 m 727 ls [])) : W p l e room_1 s m #[Value.ref b] below meth c H locs 97 5115 Q (F0 m 635 ls []) := by
  obtain ⟨hx, hb, hr, hml, hown, hts, hX, hbl, hlocks, hgv⟩ := id C0
  have hbA : ¬ (fun q : Nat => s.heap.size ≤ q) b := Nat.not_le.mpr hbl
  obtain ⟨hc, hm, X1, X2, I⟩ := hw
  obtain ⟨hc2, hm2, r, M1, M2, I2⟩ := C_day (wC := (l, D, cA, cB, s.heap.size)) (wM := (l, D, cA, cB, s.heap.size + 86)) (k := k) (by omega) (xs (4 * k + 1)) (xs (4 * k + 2)) (xs (4 * k + 3)) I
  obtain ⟨fs1, e1⟩ := I.obj1
  obtain ⟨fs2, e2⟩ := I.obj2
  refine lv_aload_n hx hb dL_law_635 rfl (lv_at hl 1 rfl) ?_
  refine lv_aload_n hx hb dL_law_636 rfl (lv_at hl 0 rfl) ?_
  refine lv_iload_n hx hb dL_law_637 rfl (lv_at hl 3 rfl) ?_
  refine lv_iconst (v := 1) hx hb dL_law_638 (by decide) ?_
  refine lv_iadd hx hb dL_law_639 ?_
  rw [show nI (4 * k) + 1 = nI (4 * k + 1) from nI_add _ 1]
  refine va_sld hx hb hX hbl hbA hS (vp_in_nI (by omega) (by omega)) dL_law_640 ?_
  rw [show xs (nI (4 * k + 1)).toNatClampNeg = xs (4 * k + 1) by rw [nI_clamp (by omega)]]
  refine lv_aload_n hx hb dL_law_641 rfl (lv_at hl 0 rfl) ?_
  refine lv_iload_n hx hb dL_law_642 rfl (lv_at hl 3 rfl) ?_
  refine lv_iconst (v := 2) hx hb dL_law_643 (by decide) ?_
  refine lv_iadd hx hb dL_law_644 ?_
  rw [show nI (4 * k) + 2 = nI (4 * k + 2) from nI_add _ 2]
  refine va_sld hx hb hX hbl hbA hS (vp_in_nI (by omega) (by omega)) dL_law_645 ?_
  rw [show xs (nI (4 * k + 2)).toNatClampNeg = xs (4 * k + 2) by rw [nI_clamp (by omega)]]
  refine lv_aload_n hx hb dL_law_646 rfl (lv_at hl 0 rfl) ?_
  refine lv_iload_n hx hb dL_law_647 rfl (lv_at hl 3 rfl) ?_
  refine lv_iconst (v := 3) hx hb dL_law_648 (by decide) ?_
  refine lv_iadd hx hb dL_law_649 ?_
  rw [show nI (4 * k) + 3 = nI (4 * k + 3) from nI_add _ 3]
  refine va_sld hx hb hX hbl hbA hS (vp_in_nI (by omega) (by omega)) dL_law_650 ?_
  rw [show xs (nI (4 * k + 3)).toNatClampNeg = xs (4 * k + 3) by rw [nI_clamp (by omega)]]
  refine lwc_call (w := (l, D, cA, cB, s.heap.size)) CC dL_law_651 kL_108 ⟨Nat.le_of_ble_eq_true rfl, Nat.le_of_ble_eq_true rfl⟩ M1 rfl (ci := 9) rfl rfl e1 hl.1 (rest := []) rfl (Nat.le_of_ble_eq_true rfl) X1 hS (Nat.le_refl _) (Nat.le_of_ble_eq_true rfl) (Nat.le_of_ble_eq_true rfl) (fun H1 locs1 Y1 K1 hS => ?_)
  have Y2 : gHd (l, D, cA, cB, s.heap.size + 86) false 11 hm H1 := gHd_kept X2 (fun q h1 h2 h3 => K1 q h1 (fun z => absurd z.2 (Nat.not_lt.mpr h2)))
  refine lv_aload_n hx hb dL_law_654 rfl (lv_at hl 2 rfl) ?_
  refine lv_aload_n hx hb dL_law_655 rfl (lv_at hl 0 rfl) ?_
  refine lv_iload_n hx hb dL_law_656 rfl (lv_at hl 3 rfl) ?_
  refine lv_iconst (v := 1) hx hb dL_law_657 (by decide) ?_
  refine lv_iadd hx hb dL_law_658 ?_
  rw [show nI (4 * k) + 1 = nI (4 * k + 1) from nI_add _ 1]
  refine va_sld hx hb hX hbl hbA hS (vp_in_nI (by omega) (by omega)) dL_law_659 ?_
  rw [show xs (nI (4 * k + 1)).toNatClampNeg = xs (4 * k + 1) by rw [nI_clamp (by omega)]]
  refine lv_aload_n hx hb dL_law_660 rfl (lv_at hl 0 rfl) ?_
  refine lv_iload_n hx hb dL_law_661 rfl (lv_at hl 3 rfl) ?_
  refine lv_iconst (v := 2) hx hb dL_law_662 (by decide) ?_
  refine lv_iadd hx hb dL_law_663 ?_
  rw [show nI (4 * k) + 2 = nI (4 * k + 2) from nI_add _ 2]
  refine va_sld hx hb hX hbl hbA hS (vp_in_nI (by omega) (by omega)) dL_law_664 ?_
  rw [show xs (nI (4 * k + 2)).toNatClampNeg = xs (4 * k + 2) by rw [nI_clamp (by omega)]]
  refine lv_aload_n hx hb dL_law_665 rfl (lv_at hl 0 rfl) ?_
  refine lv_iload_n hx hb dL_law_666 rfl (lv_at hl 3 rfl) ?_
  refine lv_iconst (v := 3) hx hb dL_law_667 (by decide) ?_
  refine lv_iadd hx hb dL_law_668 ?_
  rw [show nI (4 * k) + 3 = nI (4 * k + 3) from nI_add _ 3]
  refine va_sld hx hb hX hbl hbA hS (vp_in_nI (by omega) (by omega)) dL_law_669 ?_
  rw [show xs (nI (4 * k + 3)).toNatClampNeg = xs (4 * k + 3) by rw [nI_clamp (by omega)]]
  refine lwc_call (w := (l, D, cA, cB, s.heap.size + 86)) CM dL_law_670 kL_112 ⟨Nat.le_of_ble_eq_true rfl, Nat.le_of_ble_eq_true rfl⟩ M2 rfl (ci := 10) rfl rfl e2 hl.1 (rest := [.int r]) rfl (Nat.le_of_ble_eq_true rfl) Y2 hS (Nat.le_add_right _ _) (Nat.le_of_ble_eq_true rfl) (Nat.le_of_ble_eq_true rfl) (fun H2 locs2 Z2 K2 hS => ?_)
  have Z1 : gHd (l, D, cA, cB, s.heap.size) false 86 hc2 H2 := gHd_kept Y1 (fun q h1 h2 h3 => K2 q h1 (fun z => absurd h3 (Nat.not_lt.mpr z.1)))
  refine lv_icmp_eq (tgt := 727) hx hb dL_law_673 (by decide) (fun _ => ?_) (fun z => absurd rfl z)
  exact kk H2 locs2 hS ⟨hc2, hm2, Z1, Z2, I2⟩
set_option maxRecDepth 100000 in
theorem lw_c24 {p : Program} {l : Launch} {e : Env} {s : State} {m : MethodId} {below : List Frame} {meth : Method} {c : Code} {Q : State → Prop} {D : va_G} {cA cB : ClassId} {b L : Nat} {xs : Nat → Int32} (hL : L ≤ 2048) {k : Nat} (hk : 4 * k + 4 ≤ L) {H : Heap} {locs : List Loc} {ls : Array Slot} (C0 : lw_At p s m meth c b L xs) (CC : lwF p s m #[Value.ref b] c (l, D, cA, cB, s.heap.size)) (CM : lwF p s m #[Value.ref b] c (l, D, cA, cB, s.heap.size + 86)) (hS : va_S (fun q => s.heap.size ≤ q) s.heap H locs) (hw : lwW (l, D, cA, cB, s.heap.size) (l, D, cA, cB, s.heap.size + 86) k H) (hl : lv_has ls 4 [(0, .ref b), (1, .ref s.heap.size), (2, .ref (s.heap.size + 86)), (3, .int (nI (4 * k)))])
    (kk : ∀ (H' : Heap) (locs' : List Loc), va_S (fun q => s.heap.size ≤ q) s.heap H' locs' → lwW (l, D, cA, cB, s.heap.size) (l, D, cA, cB, s.heap.size + 86) (k + 1) H' → W p l e room_1 s m #[Value.ref b] below meth c H' locs' 97 5115 Q (F0 m 727 ls [])) : W p l e room_1 s m #[Value.ref b] below meth c H locs 97 5115 Q (F0 m 678 ls []) := by
  obtain ⟨hx, hb, hr, hml, hown, hts, hX, hbl, hlocks, hgv⟩ := id C0
  have hbA : ¬ (fun q : Nat => s.heap.size ≤ q) b := Nat.not_le.mpr hbl
  obtain ⟨hc, hm, X1, X2, I⟩ := hw
  obtain ⟨hc2, hm2, r, M1, M2, I2⟩ := C_keep (wC := (l, D, cA, cB, s.heap.size)) (wM := (l, D, cA, cB, s.heap.size + 86)) (k := k) (by omega) I
  obtain ⟨fs1, e1⟩ := I.obj1
  obtain ⟨fs2, e2⟩ := I.obj2
  refine lv_aload_n hx hb dL_law_678 rfl (lv_at hl 1 rfl) ?_
  refine lwc_call (w := (l, D, cA, cB, s.heap.size)) CC dL_law_679 kL_113 ⟨Nat.le_of_ble_eq_true rfl, Nat.le_of_ble_eq_true rfl⟩ M1 rfl (ci := 9) rfl rfl e1 hl.1 (rest := []) rfl (Nat.le_of_ble_eq_true rfl) X1 hS (Nat.le_refl _) (Nat.le_of_ble_eq_true rfl) (Nat.le_of_ble_eq_true rfl) (fun H1 locs1 Y1 K1 hS => ?_)
  have Y2 : gHd (l, D, cA, cB, s.heap.size + 86) false 11 hm H1 := gHd_kept X2 (fun q h1 h2 h3 => K1 q h1 (fun z => absurd z.2 (Nat.not_lt.mpr h2)))
  refine lv_aload_n hx hb dL_law_682 rfl (lv_at hl 2 rfl) ?_
  refine lwc_call (w := (l, D, cA, cB, s.heap.size + 86)) CM dL_law_683 kL_116 ⟨Nat.le_of_ble_eq_true rfl, Nat.le_of_ble_eq_true rfl⟩ M2 rfl (ci := 10) rfl rfl e2 hl.1 (rest := [.int r]) rfl (Nat.le_of_ble_eq_true rfl) Y2 hS (Nat.le_add_right _ _) (Nat.le_of_ble_eq_true rfl) (Nat.le_of_ble_eq_true rfl) (fun H2 locs2 Z2 K2 hS => ?_)
  have Z1 : gHd (l, D, cA, cB, s.heap.size) false 86 hc2 H2 := gHd_kept Y1 (fun q h1 h2 h3 => K2 q h1 (fun z => absurd h3 (Nat.not_lt.mpr z.1)))
  refine lv_icmp_eq (tgt := 727) hx hb dL_law_686 (by decide) (fun _ => ?_) (fun z => absurd rfl z)
  exact kk H2 locs2 hS ⟨hc2, hm2, Z1, Z2, I2⟩
set_option maxRecDepth 100000 in
theorem lw_c25 {p : Program} {l : Launch} {e : Env} {s : State} {m : MethodId} {below : List Frame} {meth : Method} {c : Code} {Q : State → Prop} {D : va_G} {cA cB : ClassId} {b L : Nat} {xs : Nat → Int32} (hL : L ≤ 2048) {k : Nat} (hk : 4 * k + 4 ≤ L) {H : Heap} {locs : List Loc} {ls : Array Slot} (C0 : lw_At p s m meth c b L xs) (CC : lwF p s m #[Value.ref b] c (l, D, cA, cB, s.heap.size)) (CM : lwF p s m #[Value.ref b] c (l, D, cA, cB, s.heap.size + 86)) (hS : va_S (fun q => s.heap.size ≤ q) s.heap H locs) (hw : lwW (l, D, cA, cB, s.heap.size) (l, D, cA, cB, s.heap.size + 86) k H) (hl : lv_has ls 4 [(0, .ref b), (1, .ref s.heap.size), (2, .ref (s.heap.size + 86)), (3, .int (nI (4 * k)))])
    (kk : ∀ (H' : Heap) (locs' : List Loc), va_S (fun q => s.heap.size ≤ q) s.heap H' locs' → lwW (l, D, cA, cB, s.heap.size) (l, D, cA, cB, s.heap.size + 86) (k + 1) H' → W p l e room_1 s m #[Value.ref b] below meth c H' locs' 97 5115 Q (F0 m 727 ls [])) : W p l e room_1 s m #[Value.ref b] below meth c H locs 97 5115 Q (F0 m 691 ls []) := by
  obtain ⟨hx, hb, hr, hml, hown, hts, hX, hbl, hlocks, hgv⟩ := id C0
  have hbA : ¬ (fun q : Nat => s.heap.size ≤ q) b := Nat.not_le.mpr hbl
  obtain ⟨hc, hm, X1, X2, I⟩ := hw
  obtain ⟨hc2, hm2, r, M1, M2, I2⟩ := C_back (wC := (l, D, cA, cB, s.heap.size)) (wM := (l, D, cA, cB, s.heap.size + 86)) (k := k) (by omega) I
  obtain ⟨fs1, e1⟩ := I.obj1
  obtain ⟨fs2, e2⟩ := I.obj2
  refine lv_aload_n hx hb dL_law_691 rfl (lv_at hl 1 rfl) ?_
  refine lwc_call (w := (l, D, cA, cB, s.heap.size)) CC dL_law_692 kL_117 ⟨Nat.le_of_ble_eq_true rfl, Nat.le_of_ble_eq_true rfl⟩ M1 rfl (ci := 9) rfl rfl e1 hl.1 (rest := []) rfl (Nat.le_of_ble_eq_true rfl) X1 hS (Nat.le_refl _) (Nat.le_of_ble_eq_true rfl) (Nat.le_of_ble_eq_true rfl) (fun H1 locs1 Y1 K1 hS => ?_)
  have Y2 : gHd (l, D, cA, cB, s.heap.size + 86) false 11 hm H1 := gHd_kept X2 (fun q h1 h2 h3 => K1 q h1 (fun z => absurd z.2 (Nat.not_lt.mpr h2)))
  refine lv_aload_n hx hb dL_law_695 rfl (lv_at hl 2 rfl) ?_
  refine lwc_call (w := (l, D, cA, cB, s.heap.size + 86)) CM dL_law_696 kL_120 ⟨Nat.le_of_ble_eq_true rfl, Nat.le_of_ble_eq_true rfl⟩ M2 rfl (ci := 10) rfl rfl e2 hl.1 (rest := [.int r]) rfl (Nat.le_of_ble_eq_true rfl) Y2 hS (Nat.le_add_right _ _) (Nat.le_of_ble_eq_true rfl) (Nat.le_of_ble_eq_true rfl) (fun H2 locs2 Z2 K2 hS => ?_)
  have Z1 : gHd (l, D, cA, cB, s.heap.size) false 86 hc2 H2 := gHd_kept Y1 (fun q h1 h2 h3 => K2 q h1 (fun z => absurd h3 (Nat.not_lt.mpr z.1)))
  refine lv_icmp_eq (tgt := 727) hx hb dL_law_699 (by decide) (fun _ => ?_) (fun z => absurd rfl z)
  exact kk H2 locs2 hS ⟨hc2, hm2, Z1, Z2, I2⟩
set_option maxRecDepth 100000 in
theorem lw_c26 {p : Program} {l : Launch} {e : Env} {s : State} {m : MethodId} {below : List Frame} {meth : Method} {c : Code} {Q : State → Prop} {D : va_G} {cA cB : ClassId} {b L : Nat} {xs : Nat → Int32} (hL : L ≤ 2048) {k : Nat} (hk : 4 * k + 4 ≤ L) {H : Heap} {locs : List Loc} {ls : Array Slot} (C0 : lw_At p s m meth c b L xs) (CC : lwF p s m #[Value.ref b] c (l, D, cA, cB, s.heap.size)) (CM : lwF p s m #[Value.ref b] c (l, D, cA, cB, s.heap.size + 86)) (hS : va_S (fun q => s.heap.size ≤ q) s.heap H locs) (hw : lwW (l, D, cA, cB, s.heap.size) (l, D, cA, cB, s.heap.size + 86) k H) (hl : lv_has ls 4 [(0, .ref b), (1, .ref s.heap.size), (2, .ref (s.heap.size + 86)), (3, .int (nI (4 * k)))])
    (kk : ∀ (H' : Heap) (locs' : List Loc), va_S (fun q => s.heap.size ≤ q) s.heap H' locs' → lwW (l, D, cA, cB, s.heap.size) (l, D, cA, cB, s.heap.size + 86) (k + 1) H' → W p l e room_1 s m #[Value.ref b] below meth c H' locs' 97 5115 Q (F0 m 727 ls [])) : W p l e room_1 s m #[Value.ref b] below meth c H locs 97 5115 Q (F0 m 704 ls []) := by
  obtain ⟨hx, hb, hr, hml, hown, hts, hX, hbl, hlocks, hgv⟩ := id C0
  have hbA : ¬ (fun q : Nat => s.heap.size ≤ q) b := Nat.not_le.mpr hbl
  obtain ⟨hc, hm, X1, X2, I⟩ := hw
  obtain ⟨hc2, hm2, r, M1, M2, I2⟩ := C_count (wC := (l, D, cA, cB, s.heap.size)) (wM := (l, D, cA, cB, s.heap.size + 86)) (k := k) (by omega) (xs (4 * k + 1)) I
  obtain ⟨fs1, e1⟩ := I.obj1
  obtain ⟨fs2, e2⟩ := I.obj2
  refine lv_aload_n hx hb dL_law_704 rfl (lv_at hl 1 rfl) ?_
  refine lv_aload_n hx hb dL_law_705 rfl (lv_at hl 0 rfl) ?_
  refine lv_iload_n hx hb dL_law_706 rfl (lv_at hl 3 rfl) ?_
  refine lv_iconst (v := 1) hx hb dL_law_707 (by decide) ?_
  refine lv_iadd hx hb dL_law_708 ?_
  rw [show nI (4 * k) + 1 = nI (4 * k + 1) from nI_add _ 1]
  refine va_sld hx hb hX hbl hbA hS (vp_in_nI (by omega) (by omega)) dL_law_709 ?_
  rw [show xs (nI (4 * k + 1)).toNatClampNeg = xs (4 * k + 1) by rw [nI_clamp (by omega)]]
  refine lwc_call (w := (l, D, cA, cB, s.heap.size)) CC dL_law_710 kL_121 ⟨Nat.le_of_ble_eq_true rfl, Nat.le_of_ble_eq_true rfl⟩ M1 rfl (ci := 9) rfl rfl e1 hl.1 (rest := []) rfl (Nat.le_of_ble_eq_true rfl) X1 hS (Nat.le_refl _) (Nat.le_of_ble_eq_true rfl) (Nat.le_of_ble_eq_true rfl) (fun H1 locs1 Y1 K1 hS => ?_)
  have Y2 : gHd (l, D, cA, cB, s.heap.size + 86) false 11 hm H1 := gHd_kept X2 (fun q h1 h2 h3 => K1 q h1 (fun z => absurd z.2 (Nat.not_lt.mpr h2)))
  refine lv_aload_n hx hb dL_law_713 rfl (lv_at hl 2 rfl) ?_
  refine lv_aload_n hx hb dL_law_714 rfl (lv_at hl 0 rfl) ?_
  refine lv_iload_n hx hb dL_law_715 rfl (lv_at hl 3 rfl) ?_
  refine lv_iconst (v := 1) hx hb dL_law_716 (by decide) ?_
  refine lv_iadd hx hb dL_law_717 ?_
  rw [show nI (4 * k) + 1 = nI (4 * k + 1) from nI_add _ 1]
  refine va_sld hx hb hX hbl hbA hS (vp_in_nI (by omega) (by omega)) dL_law_718 ?_
  rw [show xs (nI (4 * k + 1)).toNatClampNeg = xs (4 * k + 1) by rw [nI_clamp (by omega)]]
  refine lwc_call (w := (l, D, cA, cB, s.heap.size + 86)) CM dL_law_719 kL_124 ⟨Nat.le_of_ble_eq_true rfl, Nat.le_of_ble_eq_true rfl⟩ M2 rfl (ci := 10) rfl rfl e2 hl.1 (rest := [.int r]) rfl (Nat.le_of_ble_eq_true rfl) Y2 hS (Nat.le_add_right _ _) (Nat.le_of_ble_eq_true rfl) (Nat.le_of_ble_eq_true rfl) (fun H2 locs2 Z2 K2 hS => ?_)
  have Z1 : gHd (l, D, cA, cB, s.heap.size) false 86 hc2 H2 := gHd_kept Y1 (fun q h1 h2 h3 => K2 q h1 (fun z => absurd h3 (Nat.not_lt.mpr z.1)))
  refine lv_icmp_eq (tgt := 727) hx hb dL_law_722 (by decide) (fun _ => ?_) (fun z => absurd rfl z)
  exact kk H2 locs2 hS ⟨hc2, hm2, Z1, Z2, I2⟩
