/-! the loop of the law, its start; the claim -/
theorem lwW_up {wC wM : gW} {k : Nat} {H : Heap} (h : lwW wC wM k H) : lwW wC wM (k + 1) H := by
  obtain ⟨hc, hm, h1, h2, h3⟩ := h
  exact ⟨hc, hm, h1, h2, h3.up⟩
set_option maxRecDepth 100000 in
theorem lw_loop {p : Program} {l : Launch} {e : Env} {s : State} {m : MethodId} {below : List Frame} {meth : Method} {c : Code} {D : va_G} {cA cB : ClassId} {b L : Nat} {xs : Nat → Int32} (hL : L ≤ 2048) (C0 : lw_At p s m meth c b L xs) (CC : lwF p s m #[Value.ref b] c (l, D, cA, cB, s.heap.size)) (CM : lwF p s m #[Value.ref b] c (l, D, cA, cB, s.heap.size + 86)) : ∀ (d k : Nat), L < 4 * (k + d) → 4 * k ≤ L → ∀ (H : Heap) (locs : List Loc) (ls : Array Slot), va_S (fun q => s.heap.size ≤ q) s.heap H locs → lwW (l, D, cA, cB, s.heap.size) (l, D, cA, cB, s.heap.size + 86) k H → lv_has ls 4 [(0, .ref b), (1, .ref s.heap.size), (2, .ref (s.heap.size + 86)), (3, .int (nI (4 * k)))] →
    W p l e room_1 s m #[Value.ref b] below meth c H locs 97 5115 (lw_Z below #[Value.ref b] s) (F0 m 18 ls []) := by
  obtain ⟨hx, hb, hr, hml, hown, hts, hX, hbl, hlocks, hgv⟩ := id C0
  have hbA : ¬ (fun q : Nat => s.heap.size ≤ q) b := Nat.not_le.mpr hbl
  intro d
  induction d with
  | zero => intro k h1 h2; omega
  | succ d ih =>
    intro k h1 h2 H locs ls hS hw hl
    refine lv_iload_n hx hb dL_law_18 rfl (lv_at hl 3 rfl) ?_
    refine lv_aload_n hx hb dL_law_19 rfl (lv_at hl 0 rfl) ?_
    refine va_slen hx hb hX hbl hbA hS dL_law_20 ?_
    refine lv_iconst (v := 4) hx hb dL_law_21 (by decide) ?_
    refine lv_isub hx hb dL_law_22 ?_
    refine lv_icmp_gt (tgt := 733) hx hb dL_law_23 (by decide) (fun _ => ?_) (fun cc => ?_)
    · refine lv_iconst (v := 1) hx hb dL_law_733 (by decide) ?_
      refine va_forget (fun q hq => hS.2.2 q hq) ?_
      refine W.widen (k := 600000) (n := 7302249) (Nat.le_of_ble_eq_true rfl) (Nat.le_of_ble_eq_true rfl) ?_
      exact lw_ret hx hb hr hlocks dL_law_734
    · have hk : 4 * k + 4 ≤ L := by
        refine Nat.le_of_not_lt (fun z => cc ?_)
        by_cases h4 : 4 ≤ L
        · rw [show Int32.ofNat L - 4 = nI (L - 4) from pk_sub (b := 4) h4]
          exact nI_lt (by omega) (by omega)
        · have hk0 : k = 0 := by omega
          have hL4 : L = 0 ∨ L = 1 ∨ L = 2 ∨ L = 3 := by omega
          subst hk0
          rcases hL4 with rfl | rfl | rfl | rfl <;> decide
      have kend : ∀ (H' : Heap) (locs' : List Loc), va_S (fun q => s.heap.size ≤ q) s.heap H' locs' → lwW (l, D, cA, cB, s.heap.size) (l, D, cA, cB, s.heap.size + 86) (k + 1) H' → W p l e room_1 s m #[Value.ref b] below meth c H' locs' 97 5115 (lw_Z below #[Value.ref b] s) (F0 m 727 ls []) := by
        intro H' locs' hS' hw'
        refine lv_iinc (v := nI (4 * (k + 1))) (lv' := [(3, .int (nI (4 * (k + 1)))), (0, .ref b), (1, .ref s.heap.size), (2, .ref (s.heap.size + 86))]) hx hb dL_law_727 hl (k := 3) rfl (nI_add (4 * k) 4) (by decide) rfl (fun ls2 hl2 => ?_)
        refine lv_goto (tgt := 18) hx hb dL_law_730 rfl ?_
        exact ih (k + 1) (by omega) (by omega) H' locs' ls2 hS' hw' (lv_sub hl2 [1, 2, 3, 0] rfl)
      refine lv_aload_n hx hb dL_law_26 rfl (lv_at hl 0 rfl) ?_
      refine lv_iload_n hx hb dL_law_27 rfl (lv_at hl 3 rfl) ?_
      refine va_sld hx hb hX hbl hbA hS (vp_in_nI (by omega) (by omega)) dL_law_28 ?_
      refine lv_bipush (v := 31) hx hb dL_law_29 (by decide) ?_
      refine lv_iand hx hb dL_law_31 ?_
      refine lwc_tsw hx hb dL_law_32 [(0, 156), (1, 179), (2, 192), (3, 205), (4, 218), (5, 251), (6, 274), (7, 297), (8, 320), (9, 343), (10, 366), (11, 379), (12, 392), (13, 415), (14, 428), (15, 451), (16, 474), (17, 487), (18, 520), (19, 533), (20, 546), (21, 579), (22, 602), (23, 635), (24, 678), (25, 691), (26, 704)] 727 (by decide) (by decide) rfl (by decide) ?_
      refine And.intro (fun _ => ?_) (fun _ => ?_)
      · exact lw_c0 hL hk C0 CC CM hS hw hl kend
      refine And.intro (fun _ => ?_) (fun _ => ?_)
      · exact lw_c1 hL hk C0 CC CM hS hw hl kend
      refine And.intro (fun _ => ?_) (fun _ => ?_)
      · exact lw_c2 hL hk C0 CC CM hS hw hl kend
      refine And.intro (fun _ => ?_) (fun _ => ?_)
      · exact lw_c3 hL hk C0 CC CM hS hw hl kend
      refine And.intro (fun _ => ?_) (fun _ => ?_)
      · exact lw_c4 hL hk C0 CC CM hS hw hl kend
      refine And.intro (fun _ => ?_) (fun _ => ?_)
      · exact lw_c5 hL hk C0 CC CM hS hw hl kend
      refine And.intro (fun _ => ?_) (fun _ => ?_)
      · exact lw_c6 hL hk C0 CC CM hS hw hl kend
      refine And.intro (fun _ => ?_) (fun _ => ?_)
      · exact lw_c7 hL hk C0 CC CM hS hw hl kend
      refine And.intro (fun _ => ?_) (fun _ => ?_)
      · exact lw_c8 hL hk C0 CC CM hS hw hl kend
      refine And.intro (fun _ => ?_) (fun _ => ?_)
      · exact lw_c9 hL hk C0 CC CM hS hw hl kend
      refine And.intro (fun _ => ?_) (fun _ => ?_)
      · exact lw_c10 hL hk C0 CC CM hS hw hl kend
      refine And.intro (fun _ => ?_) (fun _ => ?_)
      · exact lw_c11 hL hk C0 CC CM hS hw hl kend
      refine And.intro (fun _ => ?_) (fun _ => ?_)
      · exact lw_c12 hL hk C0 CC CM hS hw hl kend
      refine And.intro (fun _ => ?_) (fun _ => ?_)
      · exact lw_c13 hL hk C0 CC CM hS hw hl kend
      refine And.intro (fun _ => ?_) (fun _ => ?_)
      · exact lw_c14 hL hk C0 CC CM hS hw hl kend
      refine And.intro (fun _ => ?_) (fun _ => ?_)
      · exact lw_c15 hL hk C0 CC CM hS hw hl kend
      refine And.intro (fun _ => ?_) (fun _ => ?_)
      · exact lw_c16 hL hk C0 CC CM hS hw hl kend
      refine And.intro (fun _ => ?_) (fun _ => ?_)
      · exact lw_c17 hL hk C0 CC CM hS hw hl kend
      refine And.intro (fun _ => ?_) (fun _ => ?_)
      · exact lw_c18 hL hk C0 CC CM hS hw hl kend
      refine And.intro (fun _ => ?_) (fun _ => ?_)
      · exact lw_c19 hL hk C0 CC CM hS hw hl kend
      refine And.intro (fun _ => ?_) (fun _ => ?_)
      · exact lw_c20 hL hk C0 CC CM hS hw hl kend
      refine And.intro (fun _ => ?_) (fun _ => ?_)
      · exact lw_c21 hL hk C0 CC CM hS hw hl kend
      refine And.intro (fun _ => ?_) (fun _ => ?_)
      · exact lw_c22 hL hk C0 CC CM hS hw hl kend
      refine And.intro (fun _ => ?_) (fun _ => ?_)
      · exact lw_c23 hL hk C0 CC CM hS hw hl kend
      refine And.intro (fun _ => ?_) (fun _ => ?_)
      · exact lw_c24 hL hk C0 CC CM hS hw hl kend
      refine And.intro (fun _ => ?_) (fun _ => ?_)
      · exact lw_c25 hL hk C0 CC CM hS hw hl kend
      refine And.intro (fun _ => ?_) (fun _ => ?_)
      · exact lw_c26 hL hk C0 CC CM hS hw hl kend
      exact kend H locs hS (lwW_up hw)
set_option maxRecDepth 100000 in
theorem lw_strAll : ∀ j, j < 97 → (Cond.eq (.elem (.field (Term.string "AgesFerry" 84) "java/lang/String" "value" "[B") (.int (Int32.ofNat j))) (.int (sBy.getD j 0))) ∈ flatC (Jvm.Cond.and given_1 narrow_1) := by decide +kernel
theorem gT_tbl {q : Cond} (h : q ∈ gTs) : q ∈ lw_tbl := (List.mem_filter.mp h).1
/-- what the start gives of the String constant -/
theorem lw_str {s : State} {args : Array Value} (hts : ∀ q ∈ lw_tbl, q.before args s = true) (hg : (Jvm.Cond.and given_1 narrow_1).before args s = true) : ∃ k v : Nat, sF k v (fun q => s.heap.size ≤ q) s ∧ vk_R RX9 84 "f12,9,1;p0,70,0,0;p0,45,0,1;p1,0,0,1;p0,38,2,1;p2,90,3,0;p3,24,5,2;p3,31,5,2;p0,52,8,0;p0,12,1,0;" k s := by
  have hs := flat_of_before _ hg
  have hA : ∀ a : Nat, a < s.heap.size → ¬ s.heap.size ≤ a := fun a h => Nat.not_le.mpr h
  obtain ⟨adK, adV, hV, hE⟩ := vk_Sof (args := args) (s := s) (N := 1) (tm := fun _ => Term.string "AgesFerry" 84) (len := [97]) (byt := [sBy]) (A := fun q => s.heap.size ≤ q) (fun i hi => by
      have h0 : i = 0 := by omega
      subst h0
      decide) (fun i hi => hs _ (by decide +kernel)) (fun i hi => hs _ (by decide +kernel)) (fun i hi => hs _ (by decide +kernel)) (fun i hi => by
      have h0 : i = 0 := by omega
      subst h0
      exact hs _ (by decide +kernel)) (fun i hi j hj => by
      have h0 : i = 0 := by omega
      subst h0
      exact hs _ (lw_strAll j hj)) (fun i j hi hj hn => by omega) hA
  have h0 := hE 0 (by decide)
  refine ⟨adK 0, adV 0, ⟨⟨fun i hi => ?_, fun i j hi hj _ => by omega⟩, ?_, ?_⟩, ?_⟩
  · have h0 : i = 0 := by omega
    subst h0
    exact hV.1 0 (by decide)
  · exact va_Zof (hts _ wCS) (hts _ (gT_tbl wIS)) (va_eqt (hs _ (by decide +kernel))) hA
  · exact va_Zqof (hts _ wSF) (hts _ (gT_tbl wIP)) (hs _ (by decide +kernel)) hA
  · exact vk_R.of (hts _ wStr) h0
/-- the classes, the array classes, the words, as the start has them -/
theorem lw_cx {s : State} {args : Array Value} (hts : ∀ q ∈ lw_tbl, q.before args s = true) : ∃ (D : va_G) (cA cB : ClassId), ∀ (l : Launch) (z : Nat), gCx (l, D, cA, cB, z) s := by
  obtain ⟨c0, i0, hKn0⟩ := u_known (C := RX0) (T := TX0) (N := 4) (n := 4) hts (fun q hq => gT_tbl (inX0 q hq)) (hts _ (gT_tbl icX0))
  obtain ⟨c1, i1, hKn1⟩ := u_known (C := RX1) (T := TX1) (N := 3) (n := 3) hts (fun q hq => gT_tbl (inX1 q hq)) (hts _ (gT_tbl icX1))
  obtain ⟨c2, i2, hKn2⟩ := u_known (C := RX2) (T := TX2) (N := 10) (n := 10) hts (fun q hq => gT_tbl (inX2 q hq)) (hts _ (gT_tbl icX2))
  obtain ⟨c3, i3, hKn3⟩ := u_known (C := RX3) (T := TX3) (N := 1) (n := 1) hts (fun q hq => gT_tbl (inX3 q hq)) (hts _ (gT_tbl icX3))
  obtain ⟨c4, i4, hKn4⟩ := u_known (C := RX4) (T := TX4) (N := 9) (n := 9) hts (fun q hq => gT_tbl (inX4 q hq)) (hts _ (gT_tbl icX4))
  obtain ⟨c5, i5, hKn5⟩ := u_known (C := RX5) (T := TX5) (N := 2) (n := 2) hts (fun q hq => gT_tbl (inX5 q hq)) (hts _ (gT_tbl icX5))
  obtain ⟨c6, i6, hKn6⟩ := u_known (C := RX6) (T := TX6) (N := 8) (n := 8) hts (fun q hq => gT_tbl (inX6 q hq)) (hts _ (gT_tbl icX6))
  obtain ⟨c7, i7, hKn7⟩ := u_known (C := RX7) (T := TX7) (N := 2) (n := 2) hts (fun q hq => gT_tbl (inX7 q hq)) (hts _ (gT_tbl icX7))
  obtain ⟨c8, i8, hKn8⟩ := u_known (C := RX8) (T := TX8) (N := 3) (n := 3) hts (fun q hq => gT_tbl (inX8 q hq)) (hts _ (gT_tbl icX8))
  obtain ⟨c9, i9, hKn9⟩ := u_known (C := RX9) (T := TX9) (N := 11) (n := 11) hts (fun q hq => gT_tbl (inX9 q hq)) (hts _ (gT_tbl icX9))
  obtain ⟨c10, i10, hKn10⟩ := u_known (C := RX10) (T := TX10) (N := 15) (n := 15) hts (fun q hq => gT_tbl (inX10 q hq)) (hts _ (gT_tbl icX10))
  obtain ⟨dC, dI, hKc⟩ : ∃ (dC : Nat → ClassId) (dI : Nat → Nat → Nat), ∀ (k : Nat) (q : vw_C), vwCl[k]? = some q → u_Kn s q.1 q.2.1 q.2.2 (dC k) (dI k) := by
    refine ⟨fun k => if k = 0 then c0 else if k = 1 then c1 else if k = 2 then c2 else if k = 3 then c3 else if k = 4 then c4 else if k = 5 then c5 else if k = 6 then c6 else if k = 7 then c7 else if k = 8 then c8 else if k = 9 then c9 else c10, fun k => if k = 0 then i0 else if k = 1 then i1 else if k = 2 then i2 else if k = 3 then i3 else if k = 4 then i4 else if k = 5 then i5 else if k = 6 then i6 else if k = 7 then i7 else if k = 8 then i8 else if k = 9 then i9 else i10, ?_⟩
    intro k q hq
    match k, hq with
    | 0, hq => cases hq; exact hKn0
    | 1, hq => cases hq; exact hKn1
    | 2, hq => cases hq; exact hKn2
    | 3, hq => cases hq; exact hKn3
    | 4, hq => cases hq; exact hKn4
    | 5, hq => cases hq; exact hKn5
    | 6, hq => cases hq; exact hKn6
    | 7, hq => cases hq; exact hKn7
    | 8, hq => cases hq; exact hKn8
    | 9, hq => cases hq; exact hKn9
    | 10, hq => cases hq; exact hKn10
    | k + 11, hq => simp [vwCl] at hq
  obtain ⟨cA, kA, compA, f1, f2, f3⟩ := Cond.arrayClass_spec (hts _ (gT_tbl wAi))
  have hAO : va_AO RX6 s := va_AO.of (hts (.arrayOver (.object RX6)) (by decide +kernel))
  obtain ⟨comp, cB, kB, g1, g2, g3, g4, g5⟩ := Cond.arrayOver_spec hAO
  refine ⟨(dC, dI), cA, cB, fun l z => ⟨⟨hKc, fun k q hq => ?_⟩, fun q hq => ?_, hAO⟩⟩
  · match k, hq with
    | 0, hq => cases hq; exact ⟨fun N z => ⟨(fun k h => by cases h), kA, f2, compA, f3⟩, f1⟩
    | 1, hq => cases hq; exact ⟨fun N z => ⟨(fun k h => by cases h), kB, g3, comp, g4⟩, kB, comp, g3, g4, g1, g5⟩
    | k + 2, hq => simp [gTys] at hq
  · have h1 := List.mem_filter.mp hq
    have h2 : gIsN q = true := h1.2
    exact va_Nw.of (by cases q <;> first | rfl | (simp [gIsN] at h2)) (hts q h1.1)
theorem whole_start {p : Program} {e : Env} {s : State} {m : MethodId} {below : List Frame} {meth : Method} {c : Code} (l : Launch) (hflags : l.flags = flags0) {b L : Nat} {xs : Nat → Int32} (hL : L ≤ 2048) (C0 : lw_At p s m meth c b L xs) : W p l e room_1 s m #[Value.ref b] below meth c s.heap [] 0 0 (lw_Z below #[Value.ref b] s) (entryFrame m ([Value.ref b] : List Value).toArray 4) := by
  obtain ⟨hx, hb, hr, hml, hown, hts, hX, hbl, hlocks, hgv⟩ := id C0
  obtain ⟨D, cA, cB, hcx⟩ := lw_cx hts
  obtain ⟨sk, sv, hSF, hSR⟩ := lw_str hts hgv
  have CC : lwF p s m #[Value.ref b] c (l, D, cA, cB, s.heap.size) := ⟨hx, hb, hml, hown, fun q hq => hts q (gT_tbl hq), hcx _ _⟩
  have CM : lwF p s m #[Value.ref b] c (l, D, cA, cB, s.heap.size + 86) := ⟨hx, hb, hml, hown, fun q hq => hts q (gT_tbl hq), hcx _ _⟩
  have hS : va_S (fun q : Nat => s.heap.size ≤ q) s.heap s.heap [] := va_S.rf
  have hl := lv_entry ([.ref b]) (n := 4) (Nat.le_of_ble_eq_true rfl)
  rw [lg_entry_eq]
  generalize (lg_sl ([.ref b]) ++ List.replicate (4 - (lg_sl ([.ref b])).length) Slot.unset).toArray = ls at hl ⊢
  have hl : lv_has ls 4 [(0, .ref b)] := hl
  have X0 : gHd (l, D, cA, cB, s.heap.size) true 0 [] s.heap := ⟨fun k q h => by simp [gw] at h, fun _ => rfl, (fun z => by cases z)⟩
  refine lwc_new (ci := 9) (r := (RX9, TX9, 11)) (w := (l, D, cA, cB, s.heap.size)) (fs := [.null, .null, .null, .null, .null, .null, .null, .null, .null, .null, .null]) CC dL_law_0 rfl inX9 tyX9 tyX9_ok nL_7 icX9 itX9 nfX9 rfl (Nat.le_of_ble_eq_true rfl) (Nat.le_of_ble_eq_true rfl) rfl (N := 11) rfl X0 hS (fun H1 X1 _ hS => ?_)
  refine lv_dup hx hb dL_law_3 rfl ?_
  refine lwc_init (w := (l, D, cA, cB, s.heap.size)) (cs2 := 86) (sl2 := 3539) CC (E := gES (l, D, cA, cB, s.heap.size)) ?_ ?_ dL_law_4 kL_9 ⟨Nat.le_of_ble_eq_true rfl, Nat.le_of_ble_eq_true rfl⟩ MX9_init hl.1 (Nat.le_of_ble_eq_true rfl) X1 hS (Nat.le_refl _) rfl rfl (Nat.le_of_ble_eq_true rfl) (Nat.le_of_ble_eq_true rfl) (fun H2 locs2 X2 _ hS => ?_)
  · rintro a U g mk ⟨k, v, h1, h2⟩
    exact ⟨k, v, h1.to (H := U.heap) (fun _ _ _ => rfl) rfl (Vm.Alike.refl U.vm), vk_R.same rfl h2⟩
  · intro U hU hW
    exact ⟨sk, sv, hSF.to hS.2.1 hU hW.alike, vk_R.warm hW hSR⟩
  refine lv_astore_n (lv' := [(1, .ref s.heap.size), (0, .ref b)]) hx hb dL_law_7 rfl hl (by decide) rfl (fun ls hl => ?_)
  have XC : gHd (l, D, cA, cB, s.heap.size) false 86 hCi H2 := ⟨X2.1, (fun z => by cases z), fun _ => rfl⟩
  have hsz : H2.size = s.heap.size + 86 := X2.2.1 rfl
  have Y0 : gHd (l, D, cA, cB, s.heap.size + 86) true 0 [] H2 := ⟨fun k q h => by simp [gw] at h, fun _ => hsz, (fun z => by cases z)⟩
  refine lwc_new (w := (l, D, cA, cB, s.heap.size + 86)) (ci := 10) (r := (RX10, TX10, 15)) (fs := [.null, .int 0, .null, .null, .null, .null, .int 0, .null, .int 0, .null, .int 0, .int 0, .null, .null, .null]) CM dL_law_8 rfl inX10 tyX10 tyX10_ok nL_10 icX10 itX10 nfX10 rfl (Nat.le_of_ble_eq_true rfl) (Nat.le_of_ble_eq_true rfl) rfl (N := 15) rfl Y0 hS (fun H3 Y1 K3 hS => ?_)
  have XC : gHd (l, D, cA, cB, s.heap.size) false 86 hCi H3 := gHd_kept XC (fun q h1 _ _ => K3 q h1)
  refine lv_dup hx hb dL_law_11 rfl ?_
  refine lwc_init (w := (l, D, cA, cB, s.heap.size + 86)) (cs2 := 97) (sl2 := 5115) CM (E := gT0) (fun _ _ _ _ _ => trivial) (fun _ _ _ => trivial) dL_law_12 kL_12 ⟨Nat.le_of_ble_eq_true rfl, Nat.le_of_ble_eq_true rfl⟩ MX10_init hl.1 (Nat.le_of_ble_eq_true rfl) Y1 hS (Nat.le_add_right _ _) rfl rfl (Nat.le_of_ble_eq_true rfl) (Nat.le_of_ble_eq_true rfl) (fun H4 locs4 Y2 K4 hS => ?_)
  have XC : gHd (l, D, cA, cB, s.heap.size) false 86 hCi H4 := gHd_kept XC (fun q h1 _ h3 => K4 q h1 h3)
  have XM : gHd (l, D, cA, cB, s.heap.size + 86) false 11 hMi H4 := ⟨Y2.1, (fun z => by cases z), fun _ => rfl⟩
  refine lv_astore_n (lv' := [(2, .ref (s.heap.size + 86)), (1, .ref s.heap.size), (0, .ref b)]) hx hb dL_law_15 rfl hl (by decide) rfl (fun ls hl => ?_)
  refine lv_iconst (v := 0) hx hb dL_law_16 (by decide) ?_
  refine lv_istore_n (lv' := [(3, .int 0), (2, .ref (s.heap.size + 86)), (1, .ref s.heap.size), (0, .ref b)]) hx hb dL_law_17 rfl hl (by decide) rfl (fun ls hl => ?_)
  exact lw_loop hL C0 CC CM (L + 1) 0 (by omega) (Nat.zero_le L) H4 locs4 ls hS ⟨hCi, hMi, XC, XM, Inv_0⟩ (lv_sub hl [3, 2, 1, 0] rfl)
set_option maxHeartbeats 4000000 in
theorem lw_walk (l : Launch) (hflags : l.flags = flags0) (b : Addr) (xs : List Int32) : MetFree l x (headSpec (Jvm.Cond.code x code maxLocals ret :: tables_1) room_1) (lw_P b xs) (fun _ _ _ _ _ => True) lw_Q := by
  refine MetFree.of_bodyS (code := code) (maxLocals := maxLocals) (ret := ret) (by decide) ?_ ?_
  · intro args s m h hn
    obtain ⟨meth, c, h1, h2, h3, h4, h5, h6, -, -⟩ := Cond.code_spec hn (atoms_spec (ws := Jvm.Cond.code x code maxLocals ret :: tables_1) h _ List.mem_cons_self)
    exact ⟨meth, c, h1, h2, h3, h4, h5, h6⟩
  · intro p e s m args below meth c s₁ B hml0 hP _
    obtain ⟨rfl, hx, hbd, hgv⟩ := hP
    obtain ⟨scr, harrAt, hlist, hof, hsmall⟩ := hx
    obtain ⟨hcb, hkn, -, -⟩ := State.arrayAt?_spec harrAt
    have hown : s.vm.findClass R_law = some m.cls := findClass_of_methodNamed B.named
    have hts0 : ∀ c ∈ (Jvm.Cond.code x code maxLocals ret :: tables_1), c.before #[Value.ref b] s = true := atoms_spec (ws := Jvm.Cond.code x code maxLocals ret :: tables_1) B.pre
    have hts : ∀ w ∈ lw_tbl, w.before #[Value.ref b] s = true := k2_hts_sels lw_privs (fun w hw => hts0 w (List.mem_cons_of_mem _ hw)) lw_privs_ok
    have hml : c.maxLocals = 4 := B.maxLocals_eq (hts0 _ List.mem_cons_self)
    have X₀ : Stand p l e room_1 s m #[Value.ref b] below meth c s₁ [] 0 0 := Stand.of_body B
    have hh0 : s₁.heap = s.heap := by rw [B.state]; rfl
    have hsz : scr.slots.size = xs.length := by rw [← Array.length_toList, hlist, List.length_map]
    have hval : ∀ j : Nat, j < xs.length → scr.slots[j]? = some (.int (xs.getD j 0)) := fun j hj => by
      rw [← Array.getElem?_toList, hlist]
      simp [hj]
    have hbl : b < s.heap.size := (Array.getElem?_eq_some_iff.mp hcb).1
    have hX : va_X b xs.length (fun j => xs.getD j 0) s s.heap := ⟨scr, hcb, hof, hkn, hsz, hval⟩
    have K : W p l e room_1 s m #[Value.ref b] below meth c s₁.heap [] 0 0 (lw_Z below #[Value.ref b] s) (entryFrame m ([Value.ref b] : List Value).toArray 4) := by
      rw [hh0]
      exact whole_start l hflags hbd ⟨B.exec, B.bytes, B.returns, hml, hown, hts, hX, hbl, B.notSynchronized, hgv⟩
    obtain ⟨t, a1, o, b1, b2, b3⟩ := K s₁ rfl X₀
    exact ⟨t, o, a1, b1, b2, b3⟩
theorem lw_pre_spec {args : Array Value} {s : State} (h : (Jvm.Cond.and given_1 narrow_1).before args s = true) (hr : rest_1_c.before args s = true) : ∃ (b : Addr) (xs : List Int32), lw_P b xs args s := by
  have hs := flat_of_before _ h
  have hq := flat_of_before _ hr
  have hc : (Cond.count 1).before args s = true := hs _ (by decide +kernel)
  have harr : (Cond.arrayOf (.arg 0) .int).before args s = true := hs _ (by decide +kernel)
  have hle : (Cond.le (.length (.arg 0)) (.int 2048)).before args s = true := hs _ (by decide +kernel)
  have hlen : (Cond.isInt (.length (.arg 0))).before args s = true := hq _ (by decide +kernel)
  have hall : (Cond.all (.arg 0) (.isInt (.elem (.arg 0) (.index 0)))).before args s = true := hq _ (by decide +kernel)
  obtain ⟨b, xs, hb, hx⟩ := State.ints_of_pre rfl harr hlen hall
  have hsm : xs.length < 2 ^ 31 := hx.choose_spec.2.2.2
  have hev : (Term.length (.arg 0)).eval args s none [] s = some (.int xs.length.toInt32) := hx.length_eval hb
  have hv := Cond.le_ints hev (show (Term.int 2048).eval args s none [] s = some (.int 2048) from rfl)
  have hd : xs.length.toInt32 ≤ 2048 := by
    simpa [Cond.before, Cond.holds, hv] using hle
  have hN : xs.length ≤ 2048 := (Int32.ofNat_le_ofNat hsm (by decide)).mp (show Int32.ofNat xs.length ≤ Int32.ofNat 2048 from hd)
  exact ⟨b, xs, Cond.one_arg hc (show args[0]? = some (.ref b) from hb), hx, hN, h⟩
theorem lw_comes (l : Launch) (hflags : l.flags = flags0) : Comes l x (Jvm.Cond.code x code maxLocals ret :: tables_1) room_1 (fun tb e args s => Calls_1 tb e args s ∧ rest_1 tb e args s ∧ Pre_1 tb e args s)
    (fun _ _ args s o t => lw_Q args s o t) := by
  intro p e ha hc hk s m args below hf hfit hheap happ hpre
  obtain ⟨b, xs, hP⟩ := lw_pre_spec hpre.2.2 hpre.2.1
  obtain ⟨k, o, h1, h2, h3, hQ⟩ := lw_walk l hflags b xs p e ha hc hk s m args below hf ((Spec.applies_iff_loose hf).mp happ).1 hP trivial
  exact ⟨k, o, h1, h2, h3, hQ⟩
theorem lw_frame {s t : State} {o : Outcome} {args : Array Value} (h : Framed s o t [] 600000 7302249) :
    Framed s o t (fieldLocs frame_1_writes args s ++ arrayLocs frame_1_arrays args s ++ staticLocs frame_1_statics s) 600000 7302249 := h
theorem lw_limb (L : Cond) (hL : ∀ (args : Array Value) (s t : State), L.after args s (.returned (some (.int 1))) t = true) :
    ArmFor flags0 classFile x code maxLocals ret World_1 tables_1 room_1 Calls_1 rest_1 Pre_1
      (fun tb e a s o t => postC L tb e a s o t ∧ Framed s o t (fieldLocs frame_1_writes a s ++ arrayLocs frame_1_arrays a s ++ staticLocs frame_1_statics s) 600000 7302249) := by
  intro l hflags _ _ p e ha hc hk s m args below hf hfit hheap happ hpre
  obtain ⟨k, o, h1, h2, h3, rfl, hF⟩ := lw_comes l hflags p e ha hc hk s m args below hf hfit hheap happ hpre
  exact ⟨k, _, h1, h2, h3, hL args s _, lw_frame hF⟩
theorem i_vc : Claimed_1_1 ∧ Claimed_1_2 := ⟨lw_limb limb_1_1 (fun args s t => by simp [limb_1_1, Cond.after, Cond.holds, Cond.value]), lw_limb limb_1_2 (fun args s t => Cond.after_iff.mpr (by
  first | (rw [show limb_1_2 = Cond.eq .result (.int 1) from rfl, Cond.eq_ints (x := 1) (y := 1) rfl rfl]; simp; done) | (simp [limb_1_2, Cond.value, Term.eval]; done)))⟩
