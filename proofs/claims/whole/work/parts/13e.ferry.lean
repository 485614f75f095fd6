set_option maxRecDepth 100000 in
set_option maxHeartbeats 4000000 in
theorem LX9_init {w : gW} {rn ki ag co pa me dki dag dco dpa dme nt tnt os og cs mo le se ab : Int32 → Int32} {rp so rs wa be pr dso drs dwa dbe dpr nm nb nc nd ns np tnm tnb tnc tnd tns tnp ph kh oh pk pc lf cu cd : Int32} {pf : Nat → Option Nat} {pst kst : Nat → gS} {n : Nat} {P : gP} : ∀ (d i : Nat) (tl : Int32 → Int32), i + d = 97 → G w (gES w) true n mX9_init 85 3528 P 85 3528 (hC (stx d i tl) (nI 97) rn rp ki ag co pa me so rs wa be pr dki dag dco dpa dme dso drs dwa dbe dpr nt nm nb nc nd ns np tnt tnm tnb tnc tnd tns tnp pf ph pst kh kst os og oh cs mo le se pk pc lf ab cu cd) 190 [.ref 0, .int (nI 97)] [] → G w (gES w) true n mX9_init 85 3528 P 85 3528 (hC tl (nI i) rn rp ki ag co pa me so rs wa be pr dki dag dco dpa dme dso drs dwa dbe dpr nt nm nb nc nd ns np tnt tnm tnb tnc tnd tns tnp pf ph pst kh kst os og oh cs mo le se pk pc lf ab cu cd) 162 [.ref 0, .int (nI i)] [] := by
  intro d
  induction d with
  | zero =>
    intro i tl hi k
    have hN : i = 97 := by omega
    subst hN
    refine g_iload_n dX9_init_162 rfl 163 rfl rfl ?_
    refine g_slen rfl dX9_init_163 dX9_init_165 kX9_86 ⟨Nat.le_of_ble_eq_true rfl, Nat.le_of_ble_eq_true rfl⟩ (Nat.le_of_ble_eq_true rfl) 168 rfl (Nat.le_refl _) (Nat.le_refl _) ?_
    refine g_icmp_ge dX9_init_168 190 rfl 171 rfl (fun _ => ?_) (fun c => absurd (nI_le (a := 97) (b := 97) (by omega) (by omega)) c)
    exact k
  | succ d ih =>
    intro i tl hi k
    refine g_iload_n dX9_init_162 rfl 163 rfl rfl ?_
    refine g_slen rfl dX9_init_163 dX9_init_165 kX9_86 ⟨Nat.le_of_ble_eq_true rfl, Nat.le_of_ble_eq_true rfl⟩ (Nat.le_of_ble_eq_true rfl) 168 rfl (Nat.le_refl _) (Nat.le_refl _) ?_
    refine g_icmp_ge dX9_init_168 190 rfl 171 rfl (fun c => absurd c (nI_ge (a := i) (b := 97) (by omega) (by omega))) (fun _ => ?_)
    refine g_aload_n dX9_init_171 rfl 172 rfl rfl ?_
    refine g_get (v := .ref 1) dX9_init_172 175 rfl lX9_12 rfl rfl ?_
    refine g_schar (j := i) rfl dX9_init_175 dX9_init_177 rfl rfl (by omega) dX9_init_178 kX9_92 ⟨Nat.le_of_ble_eq_true rfl, Nat.le_of_ble_eq_true rfl⟩ (Nat.le_of_ble_eq_true rfl) 181 rfl (Nat.le_refl _) (Nat.le_refl _) ?_
    refine g_cV0 (as := [.int (sAt i)]) (st := []) dX9_init_181 184 rfl kX9_96 ⟨Nat.le_of_ble_eq_true rfl, Nat.le_of_ble_eq_true rfl⟩ (MX7_add (ty := i) (sAt i) (by omega)) rfl rfl rfl rfl (Nat.le_of_ble_eq_true rfl) (Nat.le_refl _) (Nat.le_refl _) ?_
    refine g_iinc1 dX9_init_184 187 rfl 1 (by decide) (nI (i + 1)) (nI_add _ 1) (by decide) rfl ?_
    refine g_goto dX9_init_187 162 rfl ?_
    exact ih (i + 1) (gup tl (nI i) (sAt i)) (by omega) k
def hRaw2 : gH := [.inr (.inr (9, [.ref 1, .ref 4, .ref 7, .ref 18, .ref 29, .ref 32, .ref 35, .ref 61, .ref 69, .ref 74, .ref 83])), .inr (.inr (7, [.ref 2, .int 0])), .inr (.inr (3, [.ref 3])), .inl (200, fun _ => 0), .inr (.inr (1, [.ref 1, .ref 5, .int 0])), .inr (.inr (3, [.ref 6])), .inl (4, fun _ => 0), .inr (.inr (2, [.ref 8, .ref 10, .ref 12, .ref 14, .ref 16, .int 0, .int 0, .int 0, .int 0, .int 0])), .inr (.inr (3, [.ref 9])), .inl (9, fun _ => 0), .inr (.inr (3, [.ref 11])), .inl (9, fun _ => 0), .inr (.inr (3, [.ref 13])), .inl (9, fun _ => 0), .inr (.inr (3, [.ref 15])), .inl (9, fun _ => 0), .inr (.inr (3, [.ref 17])), .inl (6, fun _ => 0), .inr (.inr (2, [.ref 19, .ref 21, .ref 23, .ref 25, .ref 27, .int 0, .int 0, .int 0, .int 0, .int 0])), .inr (.inr (3, [.ref 20])), .inl (9, fun _ => 0), .inr (.inr (3, [.ref 22])), .inl (9, fun _ => 0), .inr (.inr (3, [.ref 24])), .inl (9, fun _ => 0), .inr (.inr (3, [.ref 26])), .inl (9, fun _ => 0), .inr (.inr (3, [.ref 28])), .inl (6, fun _ => 0), .inr (.inr (6, [.ref 7, .ref 30, .int 0, .int 0, .int 0, .int 0, .int 0, .int 0])), .inr (.inr (3, [.ref 31])), .inl (9, fun _ => 0), .inr (.inr (6, [.ref 7, .ref 33, .int 0, .int 0, .int 0, .int 0, .int 0, .int 0])), .inr (.inr (3, [.ref 34])), .inl (9, fun _ => 0), .inr (.inr (5, [.ref 36, .int 0])), .inr (.inl (8, shl (fun j => j))), .inr (.inr (6, [.ref 7, .ref 38, .int 0, .int 0, .int 0, .int 0, .int 0, .int 0])), .inr (.inr (3, [.ref 39])), .inl (9, fun _ => 0), .inr (.inr (6, [.ref 7, .ref 41, .int 0, .int 0, .int 0, .int 0, .int 0, .int 0])), .inr (.inr (3, [.ref 42])), .inl (9, fun _ => 0), .inr (.inr (6, [.ref 7, .ref 44, .int 0, .int 0, .int 0, .int 0, .int 0, .int 0])), .inr (.inr (3, [.ref 45])), .inl (9, fun _ => 0), .inr (.inr (6, [.ref 7, .ref 47, .int 0, .int 0, .int 0, .int 0, .int 0, .int 0])), .inr (.inr (3, [.ref 48])), .inl (9, fun _ => 0), .inr (.inr (6, [.ref 7, .ref 50, .int 0, .int 0, .int 0, .int 0, .int 0, .int 0])), .inr (.inr (3, [.ref 51])), .inl (9, fun _ => 0), .inr (.inr (6, [.ref 7, .ref 53, .int 0, .int 0, .int 0, .int 0, .int 0, .int 0])), .inr (.inr (3, [.ref 54])), .inl (9, fun _ => 0), .inr (.inr (6, [.ref 7, .ref 56, .int 0, .int 0, .int 0, .int 0, .int 0, .int 0])), .inr (.inr (3, [.ref 57])), .inl (9, fun _ => 0), .inr (.inr (6, [.ref 7, .ref 59, .int 0, .int 0, .int 0, .int 0, .int 0, .int 0])), .inr (.inr (3, [.ref 60])), .inl (9, fun _ => 0), .inr (.inr (5, [.ref 62, .int 0])), .inr (.inl (2, va_up (va_up (fun _ => none) 0 (some 63)) 1 (some 66))), .inr (.inr (6, [.ref 7, .ref 64, .int 0, .int 0, .int 0, .int 0, .int 0, .int 0])), .inr (.inr (3, [.ref 65])), .inl (9, fun _ => 0), .inr (.inr (6, [.ref 7, .ref 67, .int 0, .int 0, .int 0, .int 0, .int 0, .int 0])), .inr (.inr (3, [.ref 68])), .inl (9, fun _ => 0), .inr (.inr (8, [.ref 70, .ref 72, .int 0])), .inr (.inr (3, [.ref 71])), .inl (5, fun _ => 0), .inr (.inr (3, [.ref 73])), .inl (5, fun _ => 0), .inr (.inr (4, [.ref 7, .ref 29, .ref 75, .ref 77, .ref 79, .ref 81, .int 0, .int 0, .int 0])), .inr (.inr (3, [.ref 76])), .inl (512, fun _ => 0), .inr (.inr (3, [.ref 78])), .inl (512, fun _ => 0), .inr (.inr (3, [.ref 80])), .inl (512, fun _ => 0), .inr (.inr (3, [.ref 82])), .inl (892, fun _ => 0), .inr (.inr (0, [.ref 29, .ref 84, .int 0, .int 0])), .inr (.inr (3, [.ref 85])), .inl (512, fun _ => 0)]
def hRaw3 : gH := [.inr (.inr (9, [.ref 1, .ref 4, .ref 7, .ref 18, .ref 29, .ref 32, .ref 35, .ref 61, .ref 69, .ref 74, .ref 83])), .inr (.inr (7, [.ref 2, .int 0])), .inr (.inr (3, [.ref 3])), .inl (200, fun _ => 0), .inr (.inr (1, [.ref 1, .ref 5, .int 0])), .inr (.inr (3, [.ref 6])), .inl (4, fun _ => 0), .inr (.inr (2, [.ref 8, .ref 10, .ref 12, .ref 14, .ref 16, .int 0, .int 0, .int 0, .int 0, .int 0])), .inr (.inr (3, [.ref 9])), .inl (9, fun _ => 0), .inr (.inr (3, [.ref 11])), .inl (9, fun _ => 0), .inr (.inr (3, [.ref 13])), .inl (9, fun _ => 0), .inr (.inr (3, [.ref 15])), .inl (9, fun _ => 0), .inr (.inr (3, [.ref 17])), .inl (6, fun _ => 0), .inr (.inr (2, [.ref 19, .ref 21, .ref 23, .ref 25, .ref 27, .int 0, .int 0, .int 0, .int 0, .int 0])), .inr (.inr (3, [.ref 20])), .inl (9, fun _ => 0), .inr (.inr (3, [.ref 22])), .inl (9, fun _ => 0), .inr (.inr (3, [.ref 24])), .inl (9, fun _ => 0), .inr (.inr (3, [.ref 26])), .inl (9, fun _ => 0), .inr (.inr (3, [.ref 28])), .inl (6, fun _ => 0), .inr (.inr (6, [.ref 7, .ref 30, .int 0, .int 0, .int 0, .int 0, .int 0, .int 0])), .inr (.inr (3, [.ref 31])), .inl (9, fun _ => 0), .inr (.inr (6, [.ref 7, .ref 33, .int 0, .int 0, .int 0, .int 0, .int 0, .int 0])), .inr (.inr (3, [.ref 34])), .inl (9, fun _ => 0), .inr (.inr (5, [.ref 36, .int 0])), .inr (.inl (8, shl (fun j => j))), .inr (.inr (6, [.ref 7, .ref 38, .int 0, .int 0, .int 0, .int 0, .int 0, .int 0])), .inr (.inr (3, [.ref 39])), .inl (9, fun _ => 0), .inr (.inr (6, [.ref 7, .ref 41, .int 0, .int 0, .int 0, .int 0, .int 0, .int 0])), .inr (.inr (3, [.ref 42])), .inl (9, fun _ => 0), .inr (.inr (6, [.ref 7, .ref 44, .int 0, .int 0, .int 0, .int 0, .int 0, .int 0])), .inr (.inr (3, [.ref 45])), .inl (9, fun _ => 0), .inr (.inr (6, [.ref 7, .ref 47, .int 0, .int 0, .int 0, .int 0, .int 0, .int 0])), .inr (.inr (3, [.ref 48])), .inl (9, fun _ => 0), .inr (.inr (6, [.ref 7, .ref 50, .int 0, .int 0, .int 0, .int 0, .int 0, .int 0])), .inr (.inr (3, [.ref 51])), .inl (9, fun _ => 0), .inr (.inr (6, [.ref 7, .ref 53, .int 0, .int 0, .int 0, .int 0, .int 0, .int 0])), .inr (.inr (3, [.ref 54])), .inl (9, fun _ => 0), .inr (.inr (6, [.ref 7, .ref 56, .int 0, .int 0, .int 0, .int 0, .int 0, .int 0])), .inr (.inr (3, [.ref 57])), .inl (9, fun _ => 0), .inr (.inr (6, [.ref 7, .ref 59, .int 0, .int 0, .int 0, .int 0, .int 0, .int 0])), .inr (.inr (3, [.ref 60])), .inl (9, fun _ => 0), .inr (.inr (5, [.ref 62, .int 0])), .inr (.inl (2, (fun j => if j = 0 then some 63 else some 66))), .inr (.inr (6, [.ref 7, .ref 64, .int 0, .int 0, .int 0, .int 0, .int 0, .int 0])), .inr (.inr (3, [.ref 65])), .inl (9, fun _ => 0), .inr (.inr (6, [.ref 7, .ref 67, .int 0, .int 0, .int 0, .int 0, .int 0, .int 0])), .inr (.inr (3, [.ref 68])), .inl (9, fun _ => 0), .inr (.inr (8, [.ref 70, .ref 72, .int 0])), .inr (.inr (3, [.ref 71])), .inl (5, fun _ => 0), .inr (.inr (3, [.ref 73])), .inl (5, fun _ => 0), .inr (.inr (4, [.ref 7, .ref 29, .ref 75, .ref 77, .ref 79, .ref 81, .int 0, .int 0, .int 0])), .inr (.inr (3, [.ref 76])), .inl (512, fun _ => 0), .inr (.inr (3, [.ref 78])), .inl (512, fun _ => 0), .inr (.inr (3, [.ref 80])), .inl (512, fun _ => 0), .inr (.inr (3, [.ref 82])), .inl (892, fun _ => 0), .inr (.inr (0, [.ref 29, .ref 84, .int 0, .int 0])), .inr (.inr (3, [.ref 85])), .inl (512, fun _ => 0)]
set_option maxRecDepth 100000 in
theorem hRaw_a : hRaw[36]? = some (.inr (.inl (8, va_up (va_up (va_up (va_up (va_up (va_up (va_up (va_up (fun _ => none) 0 (some 37)) 1 (some 40)) 2 (some 43)) 3 (some 46)) 4 (some 49)) 5 (some 52)) 6 (some 55)) 7 (some 58)))) := rfl
set_option maxRecDepth 100000 in
theorem hRaw_b : hRaw.set 36 (.inr (.inl (8, shl (fun j => j)))) = hRaw2 := rfl
set_option maxRecDepth 100000 in
theorem hRaw_c : hRaw2[62]? = some (.inr (.inl (2, va_up (va_up (fun _ => none) 0 (some 63)) 1 (some 66)))) := rfl
set_option maxRecDepth 100000 in
theorem hRaw_d : hRaw2.set 62 (.inr (.inl (2, (fun j => if j = 0 then some 63 else some 66)))) = hRaw3 := rfl
set_option maxRecDepth 100000 in
theorem hRaw_e : hRaw3 = (hC (fun _ => 0) 0 (fun _ => 0) 0 (fun _ => 0) (fun _ => 0) (fun _ => 0) (fun _ => 0) (fun _ => 0) 0 0 0 0 0 (fun _ => 0) (fun _ => 0) (fun _ => 0) (fun _ => 0) (fun _ => 0) 0 0 0 0 0 (fun _ => 0) 0 0 0 0 0 0 (fun _ => 0) 0 0 0 0 0 0 (shl (fun j => j)) 0 (fun _ => ((fun _ => 0), 0, 0, 0, 0, 0, 0)) 0 (fun _ => ((fun _ => 0), 0, 0, 0, 0, 0, 0)) (fun _ => 0) (fun _ => 0) 0 (fun _ => 0) (fun _ => 0) (fun _ => 0) (fun _ => 0) 0 0 0 (fun _ => 0) 0 0) := rfl
/-- the class behind its constructor -/
def gX0 : Int32 × gRd := rInto (stx 97 0 (fun _ => 0)) (fun _ => 0) (fun _ => 0) (fun _ => 0) (fun _ => 0) (fun _ => 0) (fun _ => 0) 0 0 0 97
def hCi : gH := (hC (stx 97 0 (fun _ => 0)) rX7_clear ((rInto (stx 97 0 (fun _ => 0)) (fun _ => 0) (fun _ => 0) (fun _ => 0) (fun _ => 0) (fun _ => 0) (fun _ => 0) 0 0 0 97).2.1) (nI ((rInto (stx 97 0 (fun _ => 0)) (fun _ => 0) (fun _ => 0) (fun _ => 0) (fun _ => 0) (fun _ => 0) (fun _ => 0) 0 0 0 97).2.2.1)) ((rInto (stx 97 0 (fun _ => 0)) (fun _ => 0) (fun _ => 0) (fun _ => 0) (fun _ => 0) (fun _ => 0) (fun _ => 0) 0 0 0 97).2.2.2.1) ((rInto (stx 97 0 (fun _ => 0)) (fun _ => 0) (fun _ => 0) (fun _ => 0) (fun _ => 0) (fun _ => 0) (fun _ => 0) 0 0 0 97).2.2.2.2.1) ((rInto (stx 97 0 (fun _ => 0)) (fun _ => 0) (fun _ => 0) (fun _ => 0) (fun _ => 0) (fun _ => 0) (fun _ => 0) 0 0 0 97).2.2.2.2.2.1) ((rInto (stx 97 0 (fun _ => 0)) (fun _ => 0) (fun _ => 0) (fun _ => 0) (fun _ => 0) (fun _ => 0) (fun _ => 0) 0 0 0 97).2.2.2.2.2.2.1) ((rInto (stx 97 0 (fun _ => 0)) (fun _ => 0) (fun _ => 0) (fun _ => 0) (fun _ => 0) (fun _ => 0) (fun _ => 0) 0 0 0 97).2.2.2.2.2.2.2.1) ((rInto (stx 97 0 (fun _ => 0)) (fun _ => 0) (fun _ => 0) (fun _ => 0) (fun _ => 0) (fun _ => 0) (fun _ => 0) 0 0 0 97).2.2.2.2.2.2.2.2.1) (nI ((rInto (stx 97 0 (fun _ => 0)) (fun _ => 0) (fun _ => 0) (fun _ => 0) (fun _ => 0) (fun _ => 0) (fun _ => 0) 0 0 0 97).2.2.2.2.2.2.2.2.2.1)) ((rInto (stx 97 0 (fun _ => 0)) (fun _ => 0) (fun _ => 0) (fun _ => 0) (fun _ => 0) (fun _ => 0) (fun _ => 0) 0 0 0 97).2.2.2.2.2.2.2.2.2.2.1) ((rInto (stx 97 0 (fun _ => 0)) (fun _ => 0) (fun _ => 0) (fun _ => 0) (fun _ => 0) (fun _ => 0) (fun _ => 0) 0 0 0 97).2.2.2.2.2.2.2.2.2.2.2.1) ((rInto (stx 97 0 (fun _ => 0)) (fun _ => 0) (fun _ => 0) (fun _ => 0) (fun _ => 0) (fun _ => 0) (fun _ => 0) 0 0 0 97).2.2.2.2.2.2.2.2.2.2.2.2) (fun _ => 0) (fun _ => 0) (fun _ => 0) (fun _ => 0) (fun _ => 0) 0 0 0 0 0 (fun _ => 0) 0 0 0 0 0 0 (fun _ => 0) 0 0 0 0 0 0 (shl (fun j => j)) 0 (fun _ => ((fun _ => 0), 0, 0, 0, 0, 0, 0)) 0 (fun _ => ((fun _ => 0), 0, 0, 0, 0, 0, 0)) (fun _ => 0) (fun _ => 0) 0 (fun _ => 0) (fun _ => 0) (fun _ => 0) (fun _ => 0) 0 0 0 (fun _ => 0) 0 0)
set_option maxRecDepth 100000 in
set_option maxHeartbeats 4000000 in
theorem MX9_init {w : gW} : M w (gES w) true mX9_init 85 3528 [.inr (.inr (9, [.null, .null, .null, .null, .null, .null, .null, .null, .null, .null, .null]))] [.ref 0] (gEq hCi none) := by
  refine M.of (L0 := [.ref 0, gF]) (by decide +kernel) (Nat.le_of_ble_eq_true rfl) rfl ?_
  refine G9_160 ?_
  refine gAltq (h := hRaw) (k := 36) (N := 8) (f := va_up (va_up (va_up (va_up (va_up (va_up (va_up (va_up (fun _ => none) 0 (some 37)) 1 (some 40)) 2 (some 43)) 3 (some 46)) 4 (some 49)) 5 (some 52)) 6 (some 55)) 7 (some 58)) (g := shl (fun j => j)) (h2 := hRaw2) hRaw_a (fun j hj => ?_) hRaw_b ?_
  · have hj2 : j = 0 ∨ j = 1 ∨ j = 2 ∨ j = 3 ∨ j = 4 ∨ j = 5 ∨ j = 6 ∨ j = 7 := by omega
    rcases hj2 with rfl | rfl | rfl | rfl | rfl | rfl | rfl | rfl <;> rfl
  refine gAltq (h := hRaw2) (k := 62) (N := 2) (f := va_up (va_up (fun _ => none) 0 (some 63)) 1 (some 66)) (g := (fun j => if j = 0 then some 63 else some 66)) (h2 := hRaw3) hRaw_c (fun j hj => ?_) hRaw_d ?_
  · have hj2 : j = 0 ∨ j = 1 := by omega
    rcases hj2 with rfl | rfl <;> rfl
  refine gCast (h2 := (hC (fun _ => 0) 0 (fun _ => 0) 0 (fun _ => 0) (fun _ => 0) (fun _ => 0) (fun _ => 0) (fun _ => 0) 0 0 0 0 0 (fun _ => 0) (fun _ => 0) (fun _ => 0) (fun _ => 0) (fun _ => 0) 0 0 0 0 0 (fun _ => 0) 0 0 0 0 0 0 (fun _ => 0) 0 0 0 0 0 0 (shl (fun j => j)) 0 (fun _ => ((fun _ => 0), 0, 0, 0, 0, 0, 0)) 0 (fun _ => ((fun _ => 0), 0, 0, 0, 0, 0, 0)) (fun _ => 0) (fun _ => 0) 0 (fun _ => 0) (fun _ => 0) (fun _ => 0) (fun _ => 0) 0 0 0 (fun _ => 0) 0 0)) hRaw_e ?_
  refine g_iconst 0 dX9_init_160 161 rfl (by decide) ?_
  refine g_istore1 dX9_init_161 162 rfl (by decide) rfl ?_
  refine LX9_init 97 0 (fun _ => 0) (by omega) ?_
  refine g_aload_n dX9_init_190 rfl 191 rfl rfl ?_
  refine g_get (v := .ref 4) dX9_init_191 194 rfl lX9_21 rfl rfl ?_
  refine g_aload_n dX9_init_194 rfl 195 rfl rfl ?_
  refine g_get (v := .ref 7) dX9_init_195 198 rfl lX9_28 rfl rfl ?_
  refine g_cVv (as := [.ref 7]) (st := []) dX9_init_198 201 rfl kX9_100 ⟨Nat.le_of_ble_eq_true rfl, Nat.le_of_ble_eq_true rfl⟩ (MX1_readInto_7 (ty := 97) (by omega)) rfl rfl rfl rfl (Nat.le_of_ble_eq_true rfl) (Nat.le_refl _) (Nat.le_refl _) ?_
  refine g_pop dX9_init_201 202 rfl rfl ?_
  refine g_aload_n dX9_init_202 rfl 203 rfl rfl ?_
  refine g_get (v := .ref 1) dX9_init_203 206 rfl lX9_12 rfl rfl ?_
  refine g_cV0 (as := []) (st := []) dX9_init_206 209 rfl kX9_104 ⟨Nat.le_of_ble_eq_true rfl, Nat.le_of_ble_eq_true rfl⟩ (MX7_clear) rfl rfl rfl rfl (Nat.le_of_ble_eq_true rfl) (Nat.le_refl _) (Nat.le_refl _) ?_
  exact g_return dX9_init_209 rfl (Nat.le_refl _) (Nat.le_refl _) ⟨rfl, rfl⟩
/-- the reference: its draft, person by person -/
def gD0 : Int32 → Int32 := gup (rX10_begins (fun _ => 0)) 1 120
def gD1 : Int32 → Int32 := rX10_personOf gD0 0 70 0 0 0
def gD2 : Int32 → Int32 := rX10_personOf gD1 0 45 0 1 1
def gD3 : Int32 → Int32 := rX10_personOf gD2 1 0 0 1 2
def gD4 : Int32 → Int32 := rX10_personOf gD3 0 38 2 1 3
def gD5 : Int32 → Int32 := rX10_personOf gD4 2 90 3 0 4
def gD6 : Int32 → Int32 := rX10_personOf gD5 3 24 5 2 5
def gD7 : Int32 → Int32 := rX10_personOf gD6 3 31 5 2 6
def gD8 : Int32 → Int32 := rX10_personOf gD7 0 52 8 0 7
def gD9 : Int32 → Int32 := rX10_personOf gD8 0 12 1 0 8
theorem gD_0 : gD0 0 = nI 0 ∧ gD1 0 = nI 1 ∧ gD2 0 = nI 2 ∧ gD3 0 = nI 3 ∧ gD4 0 = nI 4 ∧ gD5 0 = nI 5 ∧ gD6 0 = nI 6 ∧ gD7 0 = nI 7 ∧ gD8 0 = nI 8 := by decide +kernel
/-- the reference behind its constructor -/
def hMi : gH := (hM (fun _ => 0) 0 ((rX10_lays (fun _ => 0) gD9 (fun _ => 0)).1) gD9 ((rX10_lays (fun _ => 0) gD9 (fun _ => 0)).2.1) (fun _ => 0) ((rX10_lays (fun _ => 0) gD9 (fun _ => 0)).2.2.1) (fun _ => 0) ((rX10_lays (fun _ => 0) gD9 (fun _ => 0)).2.2.2.1) (fun _ => 0) ((rX10_lays (fun _ => 0) gD9 (fun _ => 0)).2.2.2.2) 0 (fun _ => 0) (fun _ => 0) (fun _ => 0))
set_option maxRecDepth 100000 in
set_option maxHeartbeats 4000000 in
theorem MX10_init {w : gW} : M w gT0 true mX10_init 10 1561 [.inr (.inr (10, [.null, .int 0, .null, .null, .null, .null, .int 0, .null, .int 0, .null, .int 0, .int 0, .null, .null, .null]))] [.ref 0] (gEq hMi none) := by
  refine M.of (L0 := [.ref 0]) (by decide +kernel) (Nat.le_of_ble_eq_true rfl) rfl ?_
  refine g_aload_n dX10_init_0 rfl 1 rfl rfl ?_
  refine g_objInit dX10_init_1 4 rfl oX10_1 wOi wOc (by decide) (by decide) (by decide) ?_
  refine g_aload_n dX10_init_4 rfl 5 rfl rfl ?_
  refine g_sipush 200 dX10_init_5 8 rfl (by decide) ?_
  refine g_newa (N := 200) dX10_init_8 10 rfl rfl wAi (by decide) (by decide) (Nat.le_of_ble_eq_true rfl) (Nat.le_of_ble_eq_true rfl) (Nat.le_of_ble_eq_true rfl) rfl ?_
  refine gCast (h2 := [.inr (.inr (10, [.null, .int 0, .null, .null, .null, .null, .int 0, .null, .int 0, .null, .int 0, .int 0, .null, .null, .null])), .inl (200, fun _ => 0)]) rfl ?_
  refine g_putF dX10_init_10 13 rfl lX10_7 wrX10 rfl rfl rfl rfl rfl rfl rfl (Nat.le_of_ble_eq_true rfl) (h' := [.inr (.inr (10, [.ref 1, .int 0, .null, .null, .null, .null, .int 0, .null, .int 0, .null, .int 0, .int 0, .null, .null, .null])), .inl (200, fun _ => 0)]) rfl ?_
  refine g_aload_n dX10_init_13 rfl 14 rfl rfl ?_
  refine g_bipush 40 dX10_init_14 16 rfl (by decide) ?_
  refine g_newa (N := 40) dX10_init_16 18 rfl rfl wAi (by decide) (by decide) (Nat.le_of_ble_eq_true rfl) (Nat.le_of_ble_eq_true rfl) (Nat.le_of_ble_eq_true rfl) rfl ?_
  refine gCast (h2 := [.inr (.inr (10, [.ref 1, .int 0, .null, .null, .null, .null, .int 0, .null, .int 0, .null, .int 0, .int 0, .null, .null, .null])), .inl (200, fun _ => 0), .inl (40, fun _ => 0)]) rfl ?_
  refine g_putF dX10_init_18 21 rfl lX10_13 wrX10 rfl rfl rfl rfl rfl rfl rfl (Nat.le_of_ble_eq_true rfl) (h' := [.inr (.inr (10, [.ref 1, .int 0, .ref 2, .null, .null, .null, .int 0, .null, .int 0, .null, .int 0, .int 0, .null, .null, .null])), .inl (200, fun _ => 0), .inl (40, fun _ => 0)]) rfl ?_
  refine g_aload_n dX10_init_21 rfl 22 rfl rfl ?_
  refine g_bipush 40 dX10_init_22 24 rfl (by decide) ?_
  refine g_newa (N := 40) dX10_init_24 26 rfl rfl wAi (by decide) (by decide) (Nat.le_of_ble_eq_true rfl) (Nat.le_of_ble_eq_true rfl) (Nat.le_of_ble_eq_true rfl) rfl ?_
  refine gCast (h2 := [.inr (.inr (10, [.ref 1, .int 0, .ref 2, .null, .null, .null, .int 0, .null, .int 0, .null, .int 0, .int 0, .null, .null, .null])), .inl (200, fun _ => 0), .inl (40, fun _ => 0), .inl (40, fun _ => 0)]) rfl ?_
  refine g_putF dX10_init_26 29 rfl lX10_16 wrX10 rfl rfl rfl rfl rfl rfl rfl (Nat.le_of_ble_eq_true rfl) (h' := [.inr (.inr (10, [.ref 1, .int 0, .ref 2, .ref 3, .null, .null, .int 0, .null, .int 0, .null, .int 0, .int 0, .null, .null, .null])), .inl (200, fun _ => 0), .inl (40, fun _ => 0), .inl (40, fun _ => 0)]) rfl ?_
  refine g_aload_n dX10_init_29 rfl 30 rfl rfl ?_
  refine g_bipush 21 dX10_init_30 32 rfl (by decide) ?_
  refine g_newa (N := 21) dX10_init_32 34 rfl rfl wAi (by decide) (by decide) (Nat.le_of_ble_eq_true rfl) (Nat.le_of_ble_eq_true rfl) (Nat.le_of_ble_eq_true rfl) rfl ?_
  refine gCast (h2 := [.inr (.inr (10, [.ref 1, .int 0, .ref 2, .ref 3, .null, .null, .int 0, .null, .int 0, .null, .int 0, .int 0, .null, .null, .null])), .inl (200, fun _ => 0), .inl (40, fun _ => 0), .inl (40, fun _ => 0), .inl (21, fun _ => 0)]) rfl ?_
  refine g_putF dX10_init_34 37 rfl lX10_19 wrX10 rfl rfl rfl rfl rfl rfl rfl (Nat.le_of_ble_eq_true rfl) (h' := [.inr (.inr (10, [.ref 1, .int 0, .ref 2, .ref 3, .ref 4, .null, .int 0, .null, .int 0, .null, .int 0, .int 0, .null, .null, .null])), .inl (200, fun _ => 0), .inl (40, fun _ => 0), .inl (40, fun _ => 0), .inl (21, fun _ => 0)]) rfl ?_
  refine g_aload_n dX10_init_37 rfl 38 rfl rfl ?_
  refine g_sipush 168 dX10_init_38 41 rfl (by decide) ?_
  refine g_newa (N := 168) dX10_init_41 43 rfl rfl wAi (by decide) (by decide) (Nat.le_of_ble_eq_true rfl) (Nat.le_of_ble_eq_true rfl) (Nat.le_of_ble_eq_true rfl) rfl ?_
  refine gCast (h2 := [.inr (.inr (10, [.ref 1, .int 0, .ref 2, .ref 3, .ref 4, .null, .int 0, .null, .int 0, .null, .int 0, .int 0, .null, .null, .null])), .inl (200, fun _ => 0), .inl (40, fun _ => 0), .inl (40, fun _ => 0), .inl (21, fun _ => 0), .inl (168, fun _ => 0)]) rfl ?_
  refine g_putF dX10_init_43 46 rfl lX10_22 wrX10 rfl rfl rfl rfl rfl rfl rfl (Nat.le_of_ble_eq_true rfl) (h' := [.inr (.inr (10, [.ref 1, .int 0, .ref 2, .ref 3, .ref 4, .ref 5, .int 0, .null, .int 0, .null, .int 0, .int 0, .null, .null, .null])), .inl (200, fun _ => 0), .inl (40, fun _ => 0), .inl (40, fun _ => 0), .inl (21, fun _ => 0), .inl (168, fun _ => 0)]) rfl ?_
  refine g_aload_n dX10_init_46 rfl 47 rfl rfl ?_
  refine g_bipush 42 dX10_init_47 49 rfl (by decide) ?_
  refine g_newa (N := 42) dX10_init_49 51 rfl rfl wAi (by decide) (by decide) (Nat.le_of_ble_eq_true rfl) (Nat.le_of_ble_eq_true rfl) (Nat.le_of_ble_eq_true rfl) rfl ?_
  refine gCast (h2 := [.inr (.inr (10, [.ref 1, .int 0, .ref 2, .ref 3, .ref 4, .ref 5, .int 0, .null, .int 0, .null, .int 0, .int 0, .null, .null, .null])), .inl (200, fun _ => 0), .inl (40, fun _ => 0), .inl (40, fun _ => 0), .inl (21, fun _ => 0), .inl (168, fun _ => 0), .inl (42, fun _ => 0)]) rfl ?_
  refine g_putF dX10_init_51 54 rfl lX10_25 wrX10 rfl rfl rfl rfl rfl rfl rfl (Nat.le_of_ble_eq_true rfl) (h' := [.inr (.inr (10, [.ref 1, .int 0, .ref 2, .ref 3, .ref 4, .ref 5, .int 0, .ref 6, .int 0, .null, .int 0, .int 0, .null, .null, .null])), .inl (200, fun _ => 0), .inl (40, fun _ => 0), .inl (40, fun _ => 0), .inl (21, fun _ => 0), .inl (168, fun _ => 0), .inl (42, fun _ => 0)]) rfl ?_
  refine g_aload_n dX10_init_54 rfl 55 rfl rfl ?_
  refine g_iconst 5 dX10_init_55 56 rfl (by decide) ?_
  refine g_newa (N := 5) dX10_init_56 58 rfl rfl wAi (by decide) (by decide) (Nat.le_of_ble_eq_true rfl) (Nat.le_of_ble_eq_true rfl) (Nat.le_of_ble_eq_true rfl) rfl ?_
  refine gCast (h2 := [.inr (.inr (10, [.ref 1, .int 0, .ref 2, .ref 3, .ref 4, .ref 5, .int 0, .ref 6, .int 0, .null, .int 0, .int 0, .null, .null, .null])), .inl (200, fun _ => 0), .inl (40, fun _ => 0), .inl (40, fun _ => 0), .inl (21, fun _ => 0), .inl (168, fun _ => 0), .inl (42, fun _ => 0), .inl (5, fun _ => 0)]) rfl ?_
  refine g_putF dX10_init_58 61 rfl lX10_28 wrX10 rfl rfl rfl rfl rfl rfl rfl (Nat.le_of_ble_eq_true rfl) (h' := [.inr (.inr (10, [.ref 1, .int 0, .ref 2, .ref 3, .ref 4, .ref 5, .int 0, .ref 6, .int 0, .ref 7, .int 0, .int 0, .null, .null, .null])), .inl (200, fun _ => 0), .inl (40, fun _ => 0), .inl (40, fun _ => 0), .inl (21, fun _ => 0), .inl (168, fun _ => 0), .inl (42, fun _ => 0), .inl (5, fun _ => 0)]) rfl ?_
  refine g_aload_n dX10_init_61 rfl 62 rfl rfl ?_
  refine g_sipush 512 dX10_init_62 65 rfl (by decide) ?_
  refine g_newa (N := 512) dX10_init_65 67 rfl rfl wAi (by decide) (by decide) (Nat.le_of_ble_eq_true rfl) (Nat.le_of_ble_eq_true rfl) (Nat.le_of_ble_eq_true rfl) rfl ?_
  refine gCast (h2 := [.inr (.inr (10, [.ref 1, .int 0, .ref 2, .ref 3, .ref 4, .ref 5, .int 0, .ref 6, .int 0, .ref 7, .int 0, .int 0, .null, .null, .null])), .inl (200, fun _ => 0), .inl (40, fun _ => 0), .inl (40, fun _ => 0), .inl (21, fun _ => 0), .inl (168, fun _ => 0), .inl (42, fun _ => 0), .inl (5, fun _ => 0), .inl (512, fun _ => 0)]) rfl ?_
  refine g_putF dX10_init_67 70 rfl lX10_31 wrX10 rfl rfl rfl rfl rfl rfl rfl (Nat.le_of_ble_eq_true rfl) (h' := [.inr (.inr (10, [.ref 1, .int 0, .ref 2, .ref 3, .ref 4, .ref 5, .int 0, .ref 6, .int 0, .ref 7, .int 0, .int 0, .ref 8, .null, .null])), .inl (200, fun _ => 0), .inl (40, fun _ => 0), .inl (40, fun _ => 0), .inl (21, fun _ => 0), .inl (168, fun _ => 0), .inl (42, fun _ => 0), .inl (5, fun _ => 0), .inl (512, fun _ => 0)]) rfl ?_
  refine g_aload_n dX10_init_70 rfl 71 rfl rfl ?_
  refine g_sipush 512 dX10_init_71 74 rfl (by decide) ?_
  refine g_newa (N := 512) dX10_init_74 76 rfl rfl wAi (by decide) (by decide) (Nat.le_of_ble_eq_true rfl) (Nat.le_of_ble_eq_true rfl) (Nat.le_of_ble_eq_true rfl) rfl ?_
  refine gCast (h2 := [.inr (.inr (10, [.ref 1, .int 0, .ref 2, .ref 3, .ref 4, .ref 5, .int 0, .ref 6, .int 0, .ref 7, .int 0, .int 0, .ref 8, .null, .null])), .inl (200, fun _ => 0), .inl (40, fun _ => 0), .inl (40, fun _ => 0), .inl (21, fun _ => 0), .inl (168, fun _ => 0), .inl (42, fun _ => 0), .inl (5, fun _ => 0), .inl (512, fun _ => 0), .inl (512, fun _ => 0)]) rfl ?_
  refine g_putF dX10_init_76 79 rfl lX10_34 wrX10 rfl rfl rfl rfl rfl rfl rfl (Nat.le_of_ble_eq_true rfl) (h' := [.inr (.inr (10, [.ref 1, .int 0, .ref 2, .ref 3, .ref 4, .ref 5, .int 0, .ref 6, .int 0, .ref 7, .int 0, .int 0, .ref 8, .ref 9, .null])), .inl (200, fun _ => 0), .inl (40, fun _ => 0), .inl (40, fun _ => 0), .inl (21, fun _ => 0), .inl (168, fun _ => 0), .inl (42, fun _ => 0), .inl (5, fun _ => 0), .inl (512, fun _ => 0), .inl (512, fun _ => 0)]) rfl ?_
  refine g_aload_n dX10_init_79 rfl 80 rfl rfl ?_
  refine g_bipush 21 dX10_init_80 82 rfl (by decide) ?_
  refine g_newa (N := 21) dX10_init_82 84 rfl rfl wAi (by decide) (by decide) (Nat.le_of_ble_eq_true rfl) (Nat.le_of_ble_eq_true rfl) (Nat.le_of_ble_eq_true rfl) rfl ?_
  refine gCast (h2 := [.inr (.inr (10, [.ref 1, .int 0, .ref 2, .ref 3, .ref 4, .ref 5, .int 0, .ref 6, .int 0, .ref 7, .int 0, .int 0, .ref 8, .ref 9, .null])), .inl (200, fun _ => 0), .inl (40, fun _ => 0), .inl (40, fun _ => 0), .inl (21, fun _ => 0), .inl (168, fun _ => 0), .inl (42, fun _ => 0), .inl (5, fun _ => 0), .inl (512, fun _ => 0), .inl (512, fun _ => 0), .inl (21, fun _ => 0)]) rfl ?_
  refine g_putF dX10_init_84 87 rfl lX10_37 wrX10 rfl rfl rfl rfl rfl rfl rfl (Nat.le_of_ble_eq_true rfl) (h' := [.inr (.inr (10, [.ref 1, .int 0, .ref 2, .ref 3, .ref 4, .ref 5, .int 0, .ref 6, .int 0, .ref 7, .int 0, .int 0, .ref 8, .ref 9, .ref 10])), .inl (200, fun _ => 0), .inl (40, fun _ => 0), .inl (40, fun _ => 0), .inl (21, fun _ => 0), .inl (168, fun _ => 0), .inl (42, fun _ => 0), .inl (5, fun _ => 0), .inl (512, fun _ => 0), .inl (512, fun _ => 0), .inl (21, fun _ => 0)]) rfl ?_
  refine gCast (h2 := (hM (fun _ => 0) 0 (fun _ => 0) (fun _ => 0) (fun _ => 0) (fun _ => 0) 0 (fun _ => 0) 0 (fun _ => 0) 0 0 (fun _ => 0) (fun _ => 0) (fun _ => 0))) rfl ?_
  refine g_aload_n dX10_init_87 rfl 88 rfl rfl ?_
  refine g_cV0 (as := []) (st := []) (h1 := (hM (fun _ => 0) 0 (fun _ => 0) (rX10_begins (fun _ => 0)) (fun _ => 0) (fun _ => 0) 0 (fun _ => 0) 0 (fun _ => 0) 0 0 (fun _ => 0) (fun _ => 0) (fun _ => 0))) dX10_init_88 91 rfl kX10_40 ⟨Nat.le_of_ble_eq_true rfl, Nat.le_of_ble_eq_true rfl⟩ MX10_begins rfl rfl rfl rfl (Nat.le_of_ble_eq_true rfl) (Nat.le_refl _) (Nat.le_refl _) ?_
  refine g_aload_n dX10_init_91 rfl 92 rfl rfl ?_
  refine g_get (v := .ref 3) dX10_init_92 95 rfl lX10_16 rfl rfl ?_
  refine g_iconst 1 dX10_init_95 96 rfl (by decide) ?_
  refine g_bipush 120 dX10_init_96 98 rfl (by decide) ?_
  refine g_iastore (N := 40) dX10_init_98 99 rfl rfl (by decide) (vp_in_nI (n := 1) (N := 40) (by decide) (by decide)) (h' := (hM (fun _ => 0) 0 (fun _ => 0) gD0 (fun _ => 0) (fun _ => 0) 0 (fun _ => 0) 0 (fun _ => 0) 0 0 (fun _ => 0) (fun _ => 0) (fun _ => 0))) rfl ?_
  obtain ⟨q0, q1, q2, q3, q4, q5, q6, q7, q8⟩ := gD_0
  refine g_aload_n dX10_init_99 rfl 100 rfl rfl ?_
  refine g_iconst 0 dX10_init_100 101 rfl (by decide) ?_
  refine g_bipush 70 dX10_init_101 103 rfl (by decide) ?_
  refine g_iconst 0 dX10_init_103 104 rfl (by decide) ?_
  refine g_iconst 0 dX10_init_104 105 rfl (by decide) ?_
  refine g_cV0 (as := [.int 0, .int 70, .int 0, .int 0]) (st := []) (h1 := (hM (fun _ => 0) 0 (fun _ => 0) gD1 (fun _ => 0) (fun _ => 0) 0 (fun _ => 0) 0 (fun _ => 0) 0 0 (fun _ => 0) (fun _ => 0) (fun _ => 0))) dX10_init_105 108 rfl kX10_43 ⟨Nat.le_of_ble_eq_true rfl, Nat.le_of_ble_eq_true rfl⟩ (MX10_personOf (dz := 0) 0 70 0 0 q0 (by decide)) rfl rfl rfl rfl (Nat.le_of_ble_eq_true rfl) (Nat.le_refl _) (Nat.le_refl _) ?_
  refine g_aload_n dX10_init_108 rfl 109 rfl rfl ?_
  refine g_iconst 0 dX10_init_109 110 rfl (by decide) ?_
  refine g_bipush 45 dX10_init_110 112 rfl (by decide) ?_
  refine g_iconst 0 dX10_init_112 113 rfl (by decide) ?_
  refine g_iconst 1 dX10_init_113 114 rfl (by decide) ?_
  refine g_cV0 (as := [.int 0, .int 45, .int 0, .int 1]) (st := []) (h1 := (hM (fun _ => 0) 0 (fun _ => 0) gD2 (fun _ => 0) (fun _ => 0) 0 (fun _ => 0) 0 (fun _ => 0) 0 0 (fun _ => 0) (fun _ => 0) (fun _ => 0))) dX10_init_114 117 rfl kX10_43 ⟨Nat.le_of_ble_eq_true rfl, Nat.le_of_ble_eq_true rfl⟩ (MX10_personOf (dz := 1) 0 45 0 1 q1 (by decide)) rfl rfl rfl rfl (Nat.le_of_ble_eq_true rfl) (Nat.le_refl _) (Nat.le_refl _) ?_
  refine g_aload_n dX10_init_117 rfl 118 rfl rfl ?_
  refine g_iconst 1 dX10_init_118 119 rfl (by decide) ?_
  refine g_iconst 0 dX10_init_119 120 rfl (by decide) ?_
  refine g_iconst 0 dX10_init_120 121 rfl (by decide) ?_
  refine g_iconst 1 dX10_init_121 122 rfl (by decide) ?_
  refine g_cV0 (as := [.int 1, .int 0, .int 0, .int 1]) (st := []) (h1 := (hM (fun _ => 0) 0 (fun _ => 0) gD3 (fun _ => 0) (fun _ => 0) 0 (fun _ => 0) 0 (fun _ => 0) 0 0 (fun _ => 0) (fun _ => 0) (fun _ => 0))) dX10_init_122 125 rfl kX10_43 ⟨Nat.le_of_ble_eq_true rfl, Nat.le_of_ble_eq_true rfl⟩ (MX10_personOf (dz := 2) 1 0 0 1 q2 (by decide)) rfl rfl rfl rfl (Nat.le_of_ble_eq_true rfl) (Nat.le_refl _) (Nat.le_refl _) ?_
  refine g_aload_n dX10_init_125 rfl 126 rfl rfl ?_
  refine g_iconst 0 dX10_init_126 127 rfl (by decide) ?_
  refine g_bipush 38 dX10_init_127 129 rfl (by decide) ?_
  refine g_iconst 2 dX10_init_129 130 rfl (by decide) ?_
  refine g_iconst 1 dX10_init_130 131 rfl (by decide) ?_
  refine g_cV0 (as := [.int 0, .int 38, .int 2, .int 1]) (st := []) (h1 := (hM (fun _ => 0) 0 (fun _ => 0) gD4 (fun _ => 0) (fun _ => 0) 0 (fun _ => 0) 0 (fun _ => 0) 0 0 (fun _ => 0) (fun _ => 0) (fun _ => 0))) dX10_init_131 134 rfl kX10_43 ⟨Nat.le_of_ble_eq_true rfl, Nat.le_of_ble_eq_true rfl⟩ (MX10_personOf (dz := 3) 0 38 2 1 q3 (by decide)) rfl rfl rfl rfl (Nat.le_of_ble_eq_true rfl) (Nat.le_refl _) (Nat.le_refl _) ?_
  refine g_aload_n dX10_init_134 rfl 135 rfl rfl ?_
  refine g_iconst 2 dX10_init_135 136 rfl (by decide) ?_
  refine g_bipush 90 dX10_init_136 138 rfl (by decide) ?_
  refine g_iconst 3 dX10_init_138 139 rfl (by decide) ?_
  refine g_iconst 0 dX10_init_139 140 rfl (by decide) ?_
  refine g_cV0 (as := [.int 2, .int 90, .int 3, .int 0]) (st := []) (h1 := (hM (fun _ => 0) 0 (fun _ => 0) gD5 (fun _ => 0) (fun _ => 0) 0 (fun _ => 0) 0 (fun _ => 0) 0 0 (fun _ => 0) (fun _ => 0) (fun _ => 0))) dX10_init_140 143 rfl kX10_43 ⟨Nat.le_of_ble_eq_true rfl, Nat.le_of_ble_eq_true rfl⟩ (MX10_personOf (dz := 4) 2 90 3 0 q4 (by decide)) rfl rfl rfl rfl (Nat.le_of_ble_eq_true rfl) (Nat.le_refl _) (Nat.le_refl _) ?_
  refine g_aload_n dX10_init_143 rfl 144 rfl rfl ?_
  refine g_iconst 3 dX10_init_144 145 rfl (by decide) ?_
  refine g_bipush 24 dX10_init_145 147 rfl (by decide) ?_
  refine g_iconst 5 dX10_init_147 148 rfl (by decide) ?_
  refine g_iconst 2 dX10_init_148 149 rfl (by decide) ?_
  refine g_cV0 (as := [.int 3, .int 24, .int 5, .int 2]) (st := []) (h1 := (hM (fun _ => 0) 0 (fun _ => 0) gD6 (fun _ => 0) (fun _ => 0) 0 (fun _ => 0) 0 (fun _ => 0) 0 0 (fun _ => 0) (fun _ => 0) (fun _ => 0))) dX10_init_149 152 rfl kX10_43 ⟨Nat.le_of_ble_eq_true rfl, Nat.le_of_ble_eq_true rfl⟩ (MX10_personOf (dz := 5) 3 24 5 2 q5 (by decide)) rfl rfl rfl rfl (Nat.le_of_ble_eq_true rfl) (Nat.le_refl _) (Nat.le_refl _) ?_
  refine g_aload_n dX10_init_152 rfl 153 rfl rfl ?_
  refine g_iconst 3 dX10_init_153 154 rfl (by decide) ?_
  refine g_bipush 31 dX10_init_154 156 rfl (by decide) ?_
  refine g_iconst 5 dX10_init_156 157 rfl (by decide) ?_
  refine g_iconst 2 dX10_init_157 158 rfl (by decide) ?_
  refine g_cV0 (as := [.int 3, .int 31, .int 5, .int 2]) (st := []) (h1 := (hM (fun _ => 0) 0 (fun _ => 0) gD7 (fun _ => 0) (fun _ => 0) 0 (fun _ => 0) 0 (fun _ => 0) 0 0 (fun _ => 0) (fun _ => 0) (fun _ => 0))) dX10_init_158 161 rfl kX10_43 ⟨Nat.le_of_ble_eq_true rfl, Nat.le_of_ble_eq_true rfl⟩ (MX10_personOf (dz := 6) 3 31 5 2 q6 (by decide)) rfl rfl rfl rfl (Nat.le_of_ble_eq_true rfl) (Nat.le_refl _) (Nat.le_refl _) ?_
  refine g_aload_n dX10_init_161 rfl 162 rfl rfl ?_
  refine g_iconst 0 dX10_init_162 163 rfl (by decide) ?_
  refine g_bipush 52 dX10_init_163 165 rfl (by decide) ?_
  refine g_bipush 8 dX10_init_165 167 rfl (by decide) ?_
  refine g_iconst 0 dX10_init_167 168 rfl (by decide) ?_
  refine g_cV0 (as := [.int 0, .int 52, .int 8, .int 0]) (st := []) (h1 := (hM (fun _ => 0) 0 (fun _ => 0) gD8 (fun _ => 0) (fun _ => 0) 0 (fun _ => 0) 0 (fun _ => 0) 0 0 (fun _ => 0) (fun _ => 0) (fun _ => 0))) dX10_init_168 171 rfl kX10_43 ⟨Nat.le_of_ble_eq_true rfl, Nat.le_of_ble_eq_true rfl⟩ (MX10_personOf (dz := 7) 0 52 8 0 q7 (by decide)) rfl rfl rfl rfl (Nat.le_of_ble_eq_true rfl) (Nat.le_refl _) (Nat.le_refl _) ?_
  refine g_aload_n dX10_init_171 rfl 172 rfl rfl ?_
  refine g_iconst 0 dX10_init_172 173 rfl (by decide) ?_
  refine g_bipush 12 dX10_init_173 175 rfl (by decide) ?_
  refine g_iconst 1 dX10_init_175 176 rfl (by decide) ?_
  refine g_iconst 0 dX10_init_176 177 rfl (by decide) ?_
  refine g_cV0 (as := [.int 0, .int 12, .int 1, .int 0]) (st := []) (h1 := (hM (fun _ => 0) 0 (fun _ => 0) gD9 (fun _ => 0) (fun _ => 0) 0 (fun _ => 0) 0 (fun _ => 0) 0 0 (fun _ => 0) (fun _ => 0) (fun _ => 0))) dX10_init_177 180 rfl kX10_43 ⟨Nat.le_of_ble_eq_true rfl, Nat.le_of_ble_eq_true rfl⟩ (MX10_personOf (dz := 8) 0 12 1 0 q8 (by decide)) rfl rfl rfl rfl (Nat.le_of_ble_eq_true rfl) (Nat.le_refl _) (Nat.le_refl _) ?_
  refine g_aload_n dX10_init_180 rfl 181 rfl rfl ?_
  refine g_cV0 (as := []) (st := []) (h1 := hMi) dX10_init_181 184 rfl kX10_47 ⟨Nat.le_of_ble_eq_true rfl, Nat.le_of_ble_eq_true rfl⟩ MX10_lays rfl rfl rfl rfl (Nat.le_of_ble_eq_true rfl) (Nat.le_refl _) (Nat.le_refl _) ?_
  exact g_return dX10_init_184 rfl (Nat.le_refl _) (Nat.le_refl _) ⟨rfl, rfl⟩
