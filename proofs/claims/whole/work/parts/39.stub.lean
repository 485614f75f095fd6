/-! stubs -/
def Inv (k : Nat) (hc hm : gH) : Prop := sorry
theorem Inv.obj1 {k : Nat} {hc hm : gH} (I : Inv k hc hm) : ∃ fs, hc[0]? = some (.inr (.inr (9, fs))) := sorry
theorem Inv.obj2 {k : Nat} {hc hm : gH} (I : Inv k hc hm) : ∃ fs, hm[0]? = some (.inr (.inr (10, fs))) := sorry
theorem Inv.up {k : Nat} {hc hm : gH} (I : Inv k hc hm) : Inv (k + 1) hc hm := sorry
theorem Inv_0 : Inv 0 hCi hMi := sorry
def LC (wC wM : gW) (y yM : gY) (as : List Value) (k : Nat) (hc hm : gH) : Prop := ∃ (hc2 hm2 : gH) (r : Int32), M wC gT0 false y 0 0 hc (.ref 0 :: as) (gEq hc2 (some (.int r))) ∧ M wM gT0 false yM 0 0 hm (.ref 0 :: as) (gEq hm2 (some (.int r))) ∧ Inv (k + 1) hc2 hm2
theorem C_write {wC wM : gW} {k : Nat} {hc hm : gH} (hk : k < 512) (v0 : Int32) (I : Inv k hc hm) : LC wC wM mX9_write mX10_write [.int v0] k hc hm := sorry
theorem C_wipe {wC wM : gW} {k : Nat} {hc hm : gH} (hk : k < 512) (I : Inv k hc hm) : LC wC wM mX9_wipe mX10_wipe [] k hc hm := sorry
theorem C_fault {wC wM : gW} {k : Nat} {hc hm : gH} (hk : k < 512) (I : Inv k hc hm) : LC wC wM mX9_fault mX10_fault [] k hc hm := sorry
theorem C_lay {wC wM : gW} {k : Nat} {hc hm : gH} (hk : k < 512) (I : Inv k hc hm) : LC wC wM mX9_lay mX10_lay [] k hc hm := sorry
theorem C_person {wC wM : gW} {k : Nat} {hc hm : gH} (hk : k < 512) (v0 : Int32) (v1 : Int32) (I : Inv k hc hm) : LC wC wM mX9_person mX10_person [.int v0, .int v1] k hc hm := sorry
theorem C_sum {wC wM : gW} {k : Nat} {hc hm : gH} (hk : k < 512) (v0 : Int32) (I : Inv k hc hm) : LC wC wM mX9_sum mX10_sum [.int v0] k hc hm := sorry
theorem C_pass {wC wM : gW} {k : Nat} {hc hm : gH} (hk : k < 512) (v0 : Int32) (I : Inv k hc hm) : LC wC wM mX9_pass mX10_pass [.int v0] k hc hm := sorry
theorem C_board {wC wM : gW} {k : Nat} {hc hm : gH} (hk : k < 512) (v0 : Int32) (I : Inv k hc hm) : LC wC wM mX9_board mX10_board [.int v0] k hc hm := sorry
theorem C_stepOff {wC wM : gW} {k : Nat} {hc hm : gH} (hk : k < 512) (v0 : Int32) (I : Inv k hc hm) : LC wC wM mX9_stepOff mX10_stepOff [.int v0] k hc hm := sorry
theorem C_die {wC wM : gW} {k : Nat} {hc hm : gH} (hk : k < 512) (v0 : Int32) (I : Inv k hc hm) : LC wC wM mX9_die mX10_die [.int v0] k hc hm := sorry
theorem C_sail {wC wM : gW} {k : Nat} {hc hm : gH} (hk : k < 512) (I : Inv k hc hm) : LC wC wM mX9_sail mX10_sail [] k hc hm := sorry
theorem C_undo {wC wM : gW} {k : Nat} {hc hm : gH} (hk : k < 512) (I : Inv k hc hm) : LC wC wM mX9_undo mX10_undo [] k hc hm := sorry
theorem C_best {wC wM : gW} {k : Nat} {hc hm : gH} (hk : k < 512) (v0 : Int32) (I : Inv k hc hm) : LC wC wM mX9_best mX10_best [.int v0] k hc hm := sorry
theorem C_waits {wC wM : gW} {k : Nat} {hc hm : gH} (hk : k < 512) (I : Inv k hc hm) : LC wC wM mX9_waits mX10_waits [] k hc hm := sorry
theorem C_sailings {wC wM : gW} {k : Nat} {hc hm : gH} (hk : k < 512) (v0 : Int32) (I : Inv k hc hm) : LC wC wM mX9_sailings mX10_sailings [.int v0] k hc hm := sorry
theorem C_setsFor {wC wM : gW} {k : Nat} {hc hm : gH} (hk : k < 512) (v0 : Int32) (I : Inv k hc hm) : LC wC wM mX9_setsFor mX10_setsFor [.int v0] k hc hm := sorry
theorem C_oddOnes {wC wM : gW} {k : Nat} {hc hm : gH} (hk : k < 512) (I : Inv k hc hm) : LC wC wM mX9_oddOnes mX10_oddOnes [] k hc hm := sorry
theorem C_tell {wC wM : gW} {k : Nat} {hc hm : gH} (hk : k < 512) (v0 : Int32) (v1 : Int32) (I : Inv k hc hm) : LC wC wM mX9_tell mX10_tell [.int v0, .int v1] k hc hm := sorry
theorem C_forget {wC wM : gW} {k : Nat} {hc hm : gH} (hk : k < 512) (I : Inv k hc hm) : LC wC wM mX9_forget mX10_forget [] k hc hm := sorry
theorem C_liar {wC wM : gW} {k : Nat} {hc hm : gH} (hk : k < 512) (I : Inv k hc hm) : LC wC wM mX9_liar mX10_liar [] k hc hm := sorry
theorem C_age {wC wM : gW} {k : Nat} {hc hm : gH} (hk : k < 512) (v0 : Int32) (v1 : Int32) (I : Inv k hc hm) : LC wC wM mX9_age mX10_age [.int v0, .int v1] k hc hm := sorry
theorem C_sums {wC wM : gW} {k : Nat} {hc hm : gH} (hk : k < 512) (v0 : Int32) (I : Inv k hc hm) : LC wC wM mX9_sums mX10_sums [.int v0] k hc hm := sorry
theorem C_stays {wC wM : gW} {k : Nat} {hc hm : gH} (hk : k < 512) (v0 : Int32) (v1 : Int32) (I : Inv k hc hm) : LC wC wM mX9_stays mX10_stays [.int v0, .int v1] k hc hm := sorry
theorem C_day {wC wM : gW} {k : Nat} {hc hm : gH} (hk : k < 512) (v0 : Int32) (v1 : Int32) (v2 : Int32) (I : Inv k hc hm) : LC wC wM mX9_day mX10_day [.int v0, .int v1, .int v2] k hc hm := sorry
theorem C_keep {wC wM : gW} {k : Nat} {hc hm : gH} (hk : k < 512) (I : Inv k hc hm) : LC wC wM mX9_keep mX10_keep [] k hc hm := sorry
theorem C_back {wC wM : gW} {k : Nat} {hc hm : gH} (hk : k < 512) (I : Inv k hc hm) : LC wC wM mX9_back mX10_back [] k hc hm := sorry
theorem C_count {wC wM : gW} {k : Nat} {hc hm : gH} (hk : k < 512) (v0 : Int32) (I : Inv k hc hm) : LC wC wM mX9_count mX10_count [.int v0] k hc hm := sorry
