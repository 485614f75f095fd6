/-! the beginning -/
def K0 (p : Nat) : Nat := [0, 0, 1, 0, 2, 3, 3, 0, 0].getD p 0
def A0 (p : Nat) : Nat := [70, 45, 0, 38, 90, 24, 31, 52, 12].getD p 0
def C0 (p : Nat) : Nat := [0, 0, 0, 2, 3, 5, 5, 8, 1].getD p 0
def G0 (p : Nat) : Nat := [0, 1, 1, 1, 0, 2, 2, 0, 0].getD p 0
def M0 (g : Nat) : Nat := [0, 14, 96, 0, 0, 0].getD g 0
theorem i_lb : ∀ p, p < 9 → K0 p ≤ 3 ∧ A0 p ≤ 99 ∧ C0 p ≤ 99 ∧ G0 p ≤ 5 := by decide +kernel
theorem i_ki : ∀ p, p < 9 → gX0.2.2.2.1 (nI p) = nI (K0 p) := by decide +kernel
theorem i_ag : ∀ p, p < 9 → gX0.2.2.2.2.1 (nI p) = nI (A0 p) := by decide +kernel
theorem i_co : ∀ p, p < 9 → gX0.2.2.2.2.2.1 (nI p) = nI (C0 p) := by decide +kernel
theorem i_pa : ∀ p, p < 9 → gX0.2.2.2.2.2.2.1 (nI p) = nI (G0 p) := by decide +kernel
theorem i_me : ∀ g, g < 6 → 1 ≤ g → gX0.2.2.2.2.2.2.2.1 (nI g) = nI (M0 g) := by decide +kernel
theorem i_mg : ∀ g, g < 6 → 1 ≤ g → M0 g < 2 ^ 9 ∧ ∀ p, p < 9 → (M0 g).testBit p = decide (G0 p = g) := by decide +kernel
theorem i_sb : ∀ p, p < 9 → (96 : Nat).testBit p = decide (K0 p = 3) := by decide +kernel
theorem i_so : gX0.2.2.2.2.2.2.2.2.1 = nI 96 := by decide +kernel
theorem i_sz : gX0.2.2.2.2.2.2.2.2.2.1 = 9 := by decide +kernel
theorem i_wa : gX0.2.2.2.2.2.2.2.2.2.2.1 = nI 120 := by decide +kernel
theorem i_be : gX0.2.2.2.2.2.2.2.2.2.2.2.1 = nI 9 := by decide +kernel
theorem i_pr : gX0.2.2.2.2.2.2.2.2.2.2.2.2 = nI 1 := by decide +kernel
def gDt : Int32 → Int32 := (rX10_lays (fun _ => 0) gD9 (fun _ => 0)).1
theorem i_d0 : gDt 0 = nI 9 ∧ gDt 1 = nI 120 ∧ gDt 2 = nI 9 ∧ gDt 3 = nI 1 := by decide +kernel
theorem i_dp : ∀ p, p < 9 → gDt (nI (4 + p)) = nI (K0 p) ∧ gDt (nI (13 + p)) = nI (A0 p) ∧ gDt (nI (22 + p)) = nI (C0 p) ∧ gDt (nI (31 + p)) = nI (G0 p) := by decide +kernel
theorem i_ro : Ro 9 K0 A0 C0 G0 120 9 1 gDt gX0.2.2.2.1 gX0.2.2.2.2.1 gX0.2.2.2.2.2.1 gX0.2.2.2.2.2.2.1 gX0.2.2.2.2.2.2.2.1 96 gX0.2.2.2.2.2.2.2.2.2.2.1 gX0.2.2.2.2.2.2.2.2.2.2.2.1 gX0.2.2.2.2.2.2.2.2.2.2.2.2 := by
  refine ⟨by decide, ⟨by decide, by decide, by decide, by decide, by decide, i_lb⟩, ⟨i_d0.1, i_d0.2.1, i_d0.2.2.1, i_d0.2.2.2, i_dp⟩, i_wa, i_be, i_pr, by decide, fun p hp => ⟨i_ki p hp, i_ag p hp, i_co p hp, i_pa p hp, i_sb p hp⟩, fun g h1 h5 => ⟨M0 g, (i_mg g (by omega) h1).1, i_me g (by omega) h1, (i_mg g (by omega) h1).2⟩⟩
theorem i_hcX (X : Int32 × gRd) (h : rInto (stx 97 0 (fun _ => 0)) (fun _ => 0) (fun _ => 0) (fun _ => 0) (fun _ => 0) (fun _ => 0) (fun _ => 0) 0 0 0 97 = X) (hso : X.2.2.2.2.2.2.2.2.1 = nI 96) (hsz : X.2.2.2.2.2.2.2.2.2.1 = 9) : hCi = hC (stx 97 0 (fun _ => 0)) (nI 0) X.2.1 (nI X.2.2.1) X.2.2.2.1 X.2.2.2.2.1 X.2.2.2.2.2.1 X.2.2.2.2.2.2.1 X.2.2.2.2.2.2.2.1 (nI 96) (nI 9) X.2.2.2.2.2.2.2.2.2.2.1 X.2.2.2.2.2.2.2.2.2.2.2.1 X.2.2.2.2.2.2.2.2.2.2.2.2 (fun _ => 0) (fun _ => 0) (fun _ => 0) (fun _ => 0) (fun _ => 0) 0 0 0 0 0 (fun _ => 0) (nI 0) (nI 0) (nI 0) (nI 0) 0 0 (fun _ => 0) 0 0 0 0 0 0 (shl (fun j => j)) (nI 0) (fun _ => ((fun _ => 0), 0, 0, 0, 0, 0, 0)) (nI 0) (fun _ => ((fun _ => 0), 0, 0, 0, 0, 0, 0)) (fun _ => 0) (fun _ => 0) (nI 0) (fun _ => 0) (fun _ => 0) (fun _ => 0) (fun _ => 0) 0 0 0 (fun _ => 0) 0 0 := by
  unfold hCi
  rw [h, hso, hsz]
  rfl
theorem i_hc : hCi = hC (stx 97 0 (fun _ => 0)) (nI 0) gX0.2.1 (nI gX0.2.2.1) gX0.2.2.2.1 gX0.2.2.2.2.1 gX0.2.2.2.2.2.1 gX0.2.2.2.2.2.2.1 gX0.2.2.2.2.2.2.2.1 (nI 96) (nI 9) gX0.2.2.2.2.2.2.2.2.2.2.1 gX0.2.2.2.2.2.2.2.2.2.2.2.1 gX0.2.2.2.2.2.2.2.2.2.2.2.2 (fun _ => 0) (fun _ => 0) (fun _ => 0) (fun _ => 0) (fun _ => 0) 0 0 0 0 0 (fun _ => 0) (nI 0) (nI 0) (nI 0) (nI 0) 0 0 (fun _ => 0) 0 0 0 0 0 0 (shl (fun j => j)) (nI 0) (fun _ => ((fun _ => 0), 0, 0, 0, 0, 0, 0)) (nI 0) (fun _ => ((fun _ => 0), 0, 0, 0, 0, 0, 0)) (fun _ => 0) (fun _ => 0) (nI 0) (fun _ => 0) (fun _ => 0) (fun _ => 0) (fun _ => 0) 0 0 0 (fun _ => 0) 0 0 := i_hcX gX0 rfl i_so i_sz
theorem i_hm : hMi = hM (fun _ => 0) (nI 0) gDt gD9 (rX10_lays (fun _ => 0) gD9 (fun _ => 0)).2.1 (fun _ => 0) (nI 0) (fun _ => 0) (nI 0) (fun _ => 0) (nI 0) 0 (fun _ => 0) (fun _ => 0) (fun _ => 0) := rfl
theorem i_s : ∀ i, i < 21 → (rX10_lays (fun _ => 0) gD9 (fun _ => 0)).2.1 (nI i) = 0 := fun i hi => lays_s i hi
theorem Inv_0 : Inv 0 hCi hMi := by
  rw [i_hc, i_hm]
  have hT : Tx 0 (fun _ => 0) (stx 97 0 (fun _ => 0)) := ⟨Nat.zero_le _, fun j hj => absurd hj (Nat.not_lt_zero j)⟩
  have hS : St 0 (60 * 0) 9 C0 (rX10_lays (fun _ => 0) gD9 (fun _ => 0)).2.1 (fun _ => 0) 0 0 0 0 0 0 := st_zero (by decide) i_s (fun p hp => rfl)
  have hP : Ps 0 (60 * 0) 9 C0 (fun _ => 0) 0 (fun j => j) (fun _ => ((fun _ => 0), 0, 0, 0, 0, 0, 0)) := ⟨by decide, fun j h => h, fun i j _ _ e => e, fun j hj => absurd hj (Nat.not_lt_zero j)⟩
  have hN : Nts 9 A0 0 (fun _ => 0) (fun _ => 0) (fun _ => 0) (fun _ => 0) (fun _ => 0) := ⟨by decide, fun j hj => absurd hj (Nat.not_lt_zero j)⟩
  exact Inv.mk (pn := 0) (kp := 0) hT i_ro hS hP Ks.nil hN
